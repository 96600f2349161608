section
theorem b_282_0 {Z : mZ} {l0 l1 l2 l3 l4 l5 l6 : mV} {K : Nat → mK} {σ : Nat → Nat → Int} {n s : Nat} (h0 : q_ob (m_up K n (1, 6, fun _ => -1)) (n + 1) n 6) : m_run Z (282, 0, [l0, l1, l2, l3, l4, l5, l6], [], (K, σ, n, 0, s)) = (m_cl Z 94 [(2, ((n : Nat) : Int))] ((m_up K n (1, 6, fun _ => -1)), (m_up σ n (fun _ => 0)), (n + 1), 0, s + 8)).bind (m_aft (m_run Z) 282 4 [l0, l1, l2, l3, l4, l5, l6] [(2, ((n : Nat) : Int))]) := by
  refine g_new (ci := 6) (by decide +kernel : decode (m_byt 282) 0 = .ok (.new 8, 3)) (by decide +kernel) (by decide) ?_
  show m_run Z (282, 3, [l0, l1, l2, l3, l4, l5, l6], [(2, ((n : Nat) : Int))], ((m_up K n (1, 6, fun _ => -1)), (m_up σ n (fun _ => 0)), (n + 1), 0, s + 8)) = _
  refine g_base (by decide +kernel : decode (m_byt 282) 3 = .ok (.dup, 1)) rfl rfl ?_
  show m_run Z (282, 4, [l0, l1, l2, l3, l4, l5, l6], [(2, ((n : Nat) : Int)), (2, ((n : Nat) : Int))], ((m_up K n (1, 6, fun _ => -1)), (m_up σ n (fun _ => 0)), (n + 1), 0, s + 8)) = _
  exact g_inv (k := 2) (m' := 94) (np := 0) (as := [(2, ((n : Nat) : Int))]) (by decide +kernel : decode (m_byt 282) 4 = .ok (.invokespecial 115, 3)) (Or.inr (Or.inl ⟨rfl, rfl, by decide⟩)) (by decide +kernel) (by decide +kernel) (by decide +kernel) (Nat.le_of_ble_eq_true rfl) rfl (Or.inr (g_rcv (by decide +kernel) h0))
theorem b_282_7 {Z : mZ} {l1 l2 l3 l4 l5 l6 : mV} {x0 : Int} {s0 : Nat} {K : Nat → mK} {σ : Nat → Nat → Int} {n s : Nat} (h0 : q_ob (m_up K n (1, 7, fun _ => -1)) (n + 1) n 7) : m_run Z (282, 7, [(4, x0), l1, l2, l3, l4, l5, l6], [(2, ((s0 : Nat) : Int))], (K, σ, n, 0, s)) = (m_cl Z 148 [(2, ((n : Nat) : Int))] ((m_up K n (1, 7, fun _ => -1)), (m_up σ n (fun _ => 0)), (n + 1), 0, s + 27)).bind (m_aft (m_run Z) 282 12 [(4, x0), (2, ((s0 : Nat) : Int)), l2, l3, l4, l5, l6] [(2, ((n : Nat) : Int))]) := by
  refine g_astore_n (k := 1) (t := 2) (by decide) (by decide +kernel : decode (m_byt 282) 7 = .ok (.astore_n 1, 1)) (Nat.le_of_ble_eq_true rfl) ?_
  show m_run Z (282, 8, [(4, x0), (2, ((s0 : Nat) : Int)), l2, l3, l4, l5, l6], [], (K, σ, n, 0, s)) = _
  refine g_new (ci := 7) (by decide +kernel : decode (m_byt 282) 8 = .ok (.new 116, 3)) (by decide +kernel) (by decide) ?_
  show m_run Z (282, 11, [(4, x0), (2, ((s0 : Nat) : Int)), l2, l3, l4, l5, l6], [(2, ((n : Nat) : Int))], ((m_up K n (1, 7, fun _ => -1)), (m_up σ n (fun _ => 0)), (n + 1), 0, s + 27)) = _
  refine g_base (by decide +kernel : decode (m_byt 282) 11 = .ok (.dup, 1)) rfl rfl ?_
  show m_run Z (282, 12, [(4, x0), (2, ((s0 : Nat) : Int)), l2, l3, l4, l5, l6], [(2, ((n : Nat) : Int)), (2, ((n : Nat) : Int))], ((m_up K n (1, 7, fun _ => -1)), (m_up σ n (fun _ => 0)), (n + 1), 0, s + 27)) = _
  exact g_inv (k := 2) (m' := 148) (np := 0) (as := [(2, ((n : Nat) : Int))]) (by decide +kernel : decode (m_byt 282) 12 = .ok (.invokespecial 118, 3)) (Or.inr (Or.inl ⟨rfl, rfl, by decide⟩)) (by decide +kernel) (by decide +kernel) (by decide +kernel) (Nat.le_of_ble_eq_true rfl) rfl (Or.inr (g_rcv (by decide +kernel) h0))
theorem b_282_15 {Z : mZ} {l0 l2 l3 l4 l5 l6 : mV} {s0 r1 : Nat} {K : Nat → mK} {σ : Nat → Nat → Int} {n s : Nat} (h0 : 0 ≤ w32 1) (h1 : w32 1 ≤ 100000) : m_run Z (282, 15, [l0, (2, ((r1 : Nat) : Int)), l2, l3, l4, l5, l6], [(2, ((s0 : Nat) : Int))], (K, σ, n, 0, s)) = m_run Z (282, 23, [l0, (2, ((r1 : Nat) : Int)), (2, ((s0 : Nat) : Int)), (2, ((n : Nat) : Int)), (0, 0), l5, l6], [], ((m_up K n (3, (w32 1).toNat, fun _ => -1)), (m_up σ n (fun _ => 0)), (n + 1), 0, s + (w32 1).toNat)) := by
  refine g_astore_n (k := 2) (t := 2) (by decide) (by decide +kernel : decode (m_byt 282) 15 = .ok (.astore_n 2, 1)) (Nat.le_of_ble_eq_true rfl) ?_
  show m_run Z (282, 16, [l0, (2, ((r1 : Nat) : Int)), (2, ((s0 : Nat) : Int)), l3, l4, l5, l6], [], (K, σ, n, 0, s)) = _
  refine g_base (by decide +kernel : decode (m_byt 282) 16 = .ok (.iconst 1, 1)) rfl rfl ?_
  show m_run Z (282, 17, [l0, (2, ((r1 : Nat) : Int)), (2, ((s0 : Nat) : Int)), l3, l4, l5, l6], [(0, 1)], (K, σ, n, 0, s)) = _
  refine g_newl (by decide +kernel : decode (m_byt 282) 17 = .ok (.newarray .long, 2)) h0 h1 ?_
  show m_run Z (282, 19, [l0, (2, ((r1 : Nat) : Int)), (2, ((s0 : Nat) : Int)), l3, l4, l5, l6], [(2, ((n : Nat) : Int))], ((m_up K n (3, (w32 1).toNat, fun _ => -1)), (m_up σ n (fun _ => 0)), (n + 1), 0, s + (w32 1).toNat)) = _
  refine g_astore_n (k := 3) (t := 2) (by decide) (by decide +kernel : decode (m_byt 282) 19 = .ok (.astore_n 3, 1)) (Nat.le_of_ble_eq_true rfl) ?_
  show m_run Z (282, 20, [l0, (2, ((r1 : Nat) : Int)), (2, ((s0 : Nat) : Int)), (2, ((n : Nat) : Int)), l4, l5, l6], [], ((m_up K n (3, (w32 1).toNat, fun _ => -1)), (m_up σ n (fun _ => 0)), (n + 1), 0, s + (w32 1).toNat)) = _
  refine g_base (by decide +kernel : decode (m_byt 282) 20 = .ok (.iconst 0, 1)) rfl rfl ?_
  show m_run Z (282, 21, [l0, (2, ((r1 : Nat) : Int)), (2, ((s0 : Nat) : Int)), (2, ((n : Nat) : Int)), l4, l5, l6], [(0, 0)], ((m_up K n (3, (w32 1).toNat, fun _ => -1)), (m_up σ n (fun _ => 0)), (n + 1), 0, s + (w32 1).toNat)) = _
  refine g_istore (k := 4) (by decide +kernel : decode (m_byt 282) 21 = .ok (.istore 4, 2)) (Nat.le_of_ble_eq_true rfl) ?_
  show m_run Z (282, 23, [l0, (2, ((r1 : Nat) : Int)), (2, ((s0 : Nat) : Int)), (2, ((n : Nat) : Int)), (0, 0), l5, l6], [], ((m_up K n (3, (w32 1).toNat, fun _ => -1)), (m_up σ n (fun _ => 0)), (n + 1), 0, s + (w32 1).toNat)) = _
  rfl
theorem b_282_23 {Z : mZ} {l1 l2 l3 l5 l6 : mV} {x4 x0 : Int} {h : mH} : m_run Z (282, 23, [(4, x0), l1, l2, l3, (0, x4), l5, l6], [], h) = if w32 ((Z.1 : Int) - 6) < w32 x4 then m_run Z (282, 2394, [(4, x0), l1, l2, l3, (0, x4), l5, l6], [], h) else m_run Z (282, 33, [(4, x0), l1, l2, l3, (0, x4), l5, l6], [], h) := by
  refine g_iload (k := 4) (x := x4) (by decide +kernel : decode (m_byt 282) 23 = .ok (.iload 4, 2)) rfl ?_
  refine g_aload_n (k := 0) (v := (4, x0)) (by decide +kernel : decode (m_byt 282) 25 = .ok (.aload_n 0, 1)) rfl (Or.inr (Or.inr rfl)) ?_
  refine g_base (by decide +kernel : decode (m_byt 282) 26 = .ok (.arraylength, 1)) rfl rfl ?_
  show m_run Z (282, 27, [(4, x0), l1, l2, l3, (0, x4), l5, l6], [(0, (Z.1 : Int)), (0, x4)], h) = _
  refine g_base (by decide +kernel : decode (m_byt 282) 27 = .ok (.bipush 6, 2)) rfl rfl ?_
  show m_run Z (282, 29, [(4, x0), l1, l2, l3, (0, x4), l5, l6], [(0, 6), (0, (Z.1 : Int)), (0, x4)], h) = _
  refine g_base (by decide +kernel : decode (m_byt 282) 29 = .ok (.isub, 1)) rfl rfl ?_
  show m_run Z (282, 30, [(4, x0), l1, l2, l3, (0, x4), l5, l6], [(0, ((Z.1 : Int) - 6)), (0, x4)], h) = _
  exact g_brq (t := 2394) (off := 2364) (by decide +kernel : decode (m_byt 282) 30 = .ok (.if_icmp .gt 2364, 3)) rfl rfl (by decide)
theorem b_282_33_0 {Z : mZ} {l1 l2 l3 l5 l6 : mV} {x0 x4 : Int} {h : mH} (h0 : 0 ≤ w32 x4) (h1 : w32 x4 < (Z.1 : Int)) (hx : w32 (i_and (Z.2 (w32 x4).toNat).toInt 63) = 0) : m_run Z (282, 33, [(4, x0), l1, l2, l3, (0, x4), l5, l6], [], h) = m_run Z (282, 196, [(4, x0), l1, l2, l3, (0, x4), l5, l6], [], h) := by
  refine g_aload_n (k := 0) (v := (4, x0)) (by decide +kernel : decode (m_byt 282) 33 = .ok (.aload_n 0, 1)) rfl (Or.inr (Or.inr rfl)) ?_
  refine g_iload (k := 4) (x := x4) (by decide +kernel : decode (m_byt 282) 34 = .ok (.iload 4, 2)) rfl ?_
  refine g_sald (by decide +kernel : decode (m_byt 282) 36 = .ok (.iaload, 1)) h0 h1 ?_
  refine g_base (by decide +kernel : decode (m_byt 282) 37 = .ok (.bipush 63, 2)) rfl rfl ?_
  show m_run Z (282, 39, [(4, x0), l1, l2, l3, (0, x4), l5, l6], [(0, 63), (0, (Z.2 (w32 x4).toNat).toInt)], h) = _
  refine g_base (by decide +kernel : decode (m_byt 282) 39 = .ok (.iand, 1)) rfl rfl ?_
  show m_run Z (282, 40, [(4, x0), l1, l2, l3, (0, x4), l5, l6], [(0, (i_and (Z.2 (w32 x4).toNat).toInt 63))], h) = _
  exact g_swk (k := 0) (t := 196) (off := 156) (by decide +kernel : decode (m_byt 282) 40 = .ok (.tableswitch 2348 0 34 #[156, 212, 292, 348, 416, 484, 564, 620, 676, 744, 812, 880, 948, 1016, 1029, 1133, 1220, 1324, 1416, 1496, 1564, 1632, 1688, 1744, 1812, 1880, 1948, 2028, 2096, 2164, 2220, 2233, 2246, 2290, 2334], 156)) (by decide) hx rfl (by decide) rfl
theorem b_282_33_1 {Z : mZ} {l1 l2 l3 l5 l6 : mV} {x0 x4 : Int} {h : mH} (h0 : 0 ≤ w32 x4) (h1 : w32 x4 < (Z.1 : Int)) (hx : w32 (i_and (Z.2 (w32 x4).toNat).toInt 63) = 1) : m_run Z (282, 33, [(4, x0), l1, l2, l3, (0, x4), l5, l6], [], h) = m_run Z (282, 252, [(4, x0), l1, l2, l3, (0, x4), l5, l6], [], h) := by
  refine g_aload_n (k := 0) (v := (4, x0)) (by decide +kernel : decode (m_byt 282) 33 = .ok (.aload_n 0, 1)) rfl (Or.inr (Or.inr rfl)) ?_
  refine g_iload (k := 4) (x := x4) (by decide +kernel : decode (m_byt 282) 34 = .ok (.iload 4, 2)) rfl ?_
  refine g_sald (by decide +kernel : decode (m_byt 282) 36 = .ok (.iaload, 1)) h0 h1 ?_
  refine g_base (by decide +kernel : decode (m_byt 282) 37 = .ok (.bipush 63, 2)) rfl rfl ?_
  show m_run Z (282, 39, [(4, x0), l1, l2, l3, (0, x4), l5, l6], [(0, 63), (0, (Z.2 (w32 x4).toNat).toInt)], h) = _
  refine g_base (by decide +kernel : decode (m_byt 282) 39 = .ok (.iand, 1)) rfl rfl ?_
  show m_run Z (282, 40, [(4, x0), l1, l2, l3, (0, x4), l5, l6], [(0, (i_and (Z.2 (w32 x4).toNat).toInt 63))], h) = _
  exact g_swk (k := 1) (t := 252) (off := 212) (by decide +kernel : decode (m_byt 282) 40 = .ok (.tableswitch 2348 0 34 #[156, 212, 292, 348, 416, 484, 564, 620, 676, 744, 812, 880, 948, 1016, 1029, 1133, 1220, 1324, 1416, 1496, 1564, 1632, 1688, 1744, 1812, 1880, 1948, 2028, 2096, 2164, 2220, 2233, 2246, 2290, 2334], 156)) (by decide) hx rfl (by decide) rfl
theorem b_282_33_2 {Z : mZ} {l1 l2 l3 l5 l6 : mV} {x0 x4 : Int} {h : mH} (h0 : 0 ≤ w32 x4) (h1 : w32 x4 < (Z.1 : Int)) (hx : w32 (i_and (Z.2 (w32 x4).toNat).toInt 63) = 2) : m_run Z (282, 33, [(4, x0), l1, l2, l3, (0, x4), l5, l6], [], h) = m_run Z (282, 332, [(4, x0), l1, l2, l3, (0, x4), l5, l6], [], h) := by
  refine g_aload_n (k := 0) (v := (4, x0)) (by decide +kernel : decode (m_byt 282) 33 = .ok (.aload_n 0, 1)) rfl (Or.inr (Or.inr rfl)) ?_
  refine g_iload (k := 4) (x := x4) (by decide +kernel : decode (m_byt 282) 34 = .ok (.iload 4, 2)) rfl ?_
  refine g_sald (by decide +kernel : decode (m_byt 282) 36 = .ok (.iaload, 1)) h0 h1 ?_
  refine g_base (by decide +kernel : decode (m_byt 282) 37 = .ok (.bipush 63, 2)) rfl rfl ?_
  show m_run Z (282, 39, [(4, x0), l1, l2, l3, (0, x4), l5, l6], [(0, 63), (0, (Z.2 (w32 x4).toNat).toInt)], h) = _
  refine g_base (by decide +kernel : decode (m_byt 282) 39 = .ok (.iand, 1)) rfl rfl ?_
  show m_run Z (282, 40, [(4, x0), l1, l2, l3, (0, x4), l5, l6], [(0, (i_and (Z.2 (w32 x4).toNat).toInt 63))], h) = _
  exact g_swk (k := 2) (t := 332) (off := 292) (by decide +kernel : decode (m_byt 282) 40 = .ok (.tableswitch 2348 0 34 #[156, 212, 292, 348, 416, 484, 564, 620, 676, 744, 812, 880, 948, 1016, 1029, 1133, 1220, 1324, 1416, 1496, 1564, 1632, 1688, 1744, 1812, 1880, 1948, 2028, 2096, 2164, 2220, 2233, 2246, 2290, 2334], 156)) (by decide) hx rfl (by decide) rfl
theorem b_282_33_3 {Z : mZ} {l1 l2 l3 l5 l6 : mV} {x0 x4 : Int} {h : mH} (h0 : 0 ≤ w32 x4) (h1 : w32 x4 < (Z.1 : Int)) (hx : w32 (i_and (Z.2 (w32 x4).toNat).toInt 63) = 3) : m_run Z (282, 33, [(4, x0), l1, l2, l3, (0, x4), l5, l6], [], h) = m_run Z (282, 388, [(4, x0), l1, l2, l3, (0, x4), l5, l6], [], h) := by
  refine g_aload_n (k := 0) (v := (4, x0)) (by decide +kernel : decode (m_byt 282) 33 = .ok (.aload_n 0, 1)) rfl (Or.inr (Or.inr rfl)) ?_
  refine g_iload (k := 4) (x := x4) (by decide +kernel : decode (m_byt 282) 34 = .ok (.iload 4, 2)) rfl ?_
  refine g_sald (by decide +kernel : decode (m_byt 282) 36 = .ok (.iaload, 1)) h0 h1 ?_
  refine g_base (by decide +kernel : decode (m_byt 282) 37 = .ok (.bipush 63, 2)) rfl rfl ?_
  show m_run Z (282, 39, [(4, x0), l1, l2, l3, (0, x4), l5, l6], [(0, 63), (0, (Z.2 (w32 x4).toNat).toInt)], h) = _
  refine g_base (by decide +kernel : decode (m_byt 282) 39 = .ok (.iand, 1)) rfl rfl ?_
  show m_run Z (282, 40, [(4, x0), l1, l2, l3, (0, x4), l5, l6], [(0, (i_and (Z.2 (w32 x4).toNat).toInt 63))], h) = _
  exact g_swk (k := 3) (t := 388) (off := 348) (by decide +kernel : decode (m_byt 282) 40 = .ok (.tableswitch 2348 0 34 #[156, 212, 292, 348, 416, 484, 564, 620, 676, 744, 812, 880, 948, 1016, 1029, 1133, 1220, 1324, 1416, 1496, 1564, 1632, 1688, 1744, 1812, 1880, 1948, 2028, 2096, 2164, 2220, 2233, 2246, 2290, 2334], 156)) (by decide) hx rfl (by decide) rfl
theorem b_282_33_4 {Z : mZ} {l1 l2 l3 l5 l6 : mV} {x0 x4 : Int} {h : mH} (h0 : 0 ≤ w32 x4) (h1 : w32 x4 < (Z.1 : Int)) (hx : w32 (i_and (Z.2 (w32 x4).toNat).toInt 63) = 4) : m_run Z (282, 33, [(4, x0), l1, l2, l3, (0, x4), l5, l6], [], h) = m_run Z (282, 456, [(4, x0), l1, l2, l3, (0, x4), l5, l6], [], h) := by
  refine g_aload_n (k := 0) (v := (4, x0)) (by decide +kernel : decode (m_byt 282) 33 = .ok (.aload_n 0, 1)) rfl (Or.inr (Or.inr rfl)) ?_
  refine g_iload (k := 4) (x := x4) (by decide +kernel : decode (m_byt 282) 34 = .ok (.iload 4, 2)) rfl ?_
  refine g_sald (by decide +kernel : decode (m_byt 282) 36 = .ok (.iaload, 1)) h0 h1 ?_
  refine g_base (by decide +kernel : decode (m_byt 282) 37 = .ok (.bipush 63, 2)) rfl rfl ?_
  show m_run Z (282, 39, [(4, x0), l1, l2, l3, (0, x4), l5, l6], [(0, 63), (0, (Z.2 (w32 x4).toNat).toInt)], h) = _
  refine g_base (by decide +kernel : decode (m_byt 282) 39 = .ok (.iand, 1)) rfl rfl ?_
  show m_run Z (282, 40, [(4, x0), l1, l2, l3, (0, x4), l5, l6], [(0, (i_and (Z.2 (w32 x4).toNat).toInt 63))], h) = _
  exact g_swk (k := 4) (t := 456) (off := 416) (by decide +kernel : decode (m_byt 282) 40 = .ok (.tableswitch 2348 0 34 #[156, 212, 292, 348, 416, 484, 564, 620, 676, 744, 812, 880, 948, 1016, 1029, 1133, 1220, 1324, 1416, 1496, 1564, 1632, 1688, 1744, 1812, 1880, 1948, 2028, 2096, 2164, 2220, 2233, 2246, 2290, 2334], 156)) (by decide) hx rfl (by decide) rfl
theorem b_282_33_5 {Z : mZ} {l1 l2 l3 l5 l6 : mV} {x0 x4 : Int} {h : mH} (h0 : 0 ≤ w32 x4) (h1 : w32 x4 < (Z.1 : Int)) (hx : w32 (i_and (Z.2 (w32 x4).toNat).toInt 63) = 5) : m_run Z (282, 33, [(4, x0), l1, l2, l3, (0, x4), l5, l6], [], h) = m_run Z (282, 524, [(4, x0), l1, l2, l3, (0, x4), l5, l6], [], h) := by
  refine g_aload_n (k := 0) (v := (4, x0)) (by decide +kernel : decode (m_byt 282) 33 = .ok (.aload_n 0, 1)) rfl (Or.inr (Or.inr rfl)) ?_
  refine g_iload (k := 4) (x := x4) (by decide +kernel : decode (m_byt 282) 34 = .ok (.iload 4, 2)) rfl ?_
  refine g_sald (by decide +kernel : decode (m_byt 282) 36 = .ok (.iaload, 1)) h0 h1 ?_
  refine g_base (by decide +kernel : decode (m_byt 282) 37 = .ok (.bipush 63, 2)) rfl rfl ?_
  show m_run Z (282, 39, [(4, x0), l1, l2, l3, (0, x4), l5, l6], [(0, 63), (0, (Z.2 (w32 x4).toNat).toInt)], h) = _
  refine g_base (by decide +kernel : decode (m_byt 282) 39 = .ok (.iand, 1)) rfl rfl ?_
  show m_run Z (282, 40, [(4, x0), l1, l2, l3, (0, x4), l5, l6], [(0, (i_and (Z.2 (w32 x4).toNat).toInt 63))], h) = _
  exact g_swk (k := 5) (t := 524) (off := 484) (by decide +kernel : decode (m_byt 282) 40 = .ok (.tableswitch 2348 0 34 #[156, 212, 292, 348, 416, 484, 564, 620, 676, 744, 812, 880, 948, 1016, 1029, 1133, 1220, 1324, 1416, 1496, 1564, 1632, 1688, 1744, 1812, 1880, 1948, 2028, 2096, 2164, 2220, 2233, 2246, 2290, 2334], 156)) (by decide) hx rfl (by decide) rfl
theorem b_282_33_6 {Z : mZ} {l1 l2 l3 l5 l6 : mV} {x0 x4 : Int} {h : mH} (h0 : 0 ≤ w32 x4) (h1 : w32 x4 < (Z.1 : Int)) (hx : w32 (i_and (Z.2 (w32 x4).toNat).toInt 63) = 6) : m_run Z (282, 33, [(4, x0), l1, l2, l3, (0, x4), l5, l6], [], h) = m_run Z (282, 604, [(4, x0), l1, l2, l3, (0, x4), l5, l6], [], h) := by
  refine g_aload_n (k := 0) (v := (4, x0)) (by decide +kernel : decode (m_byt 282) 33 = .ok (.aload_n 0, 1)) rfl (Or.inr (Or.inr rfl)) ?_
  refine g_iload (k := 4) (x := x4) (by decide +kernel : decode (m_byt 282) 34 = .ok (.iload 4, 2)) rfl ?_
  refine g_sald (by decide +kernel : decode (m_byt 282) 36 = .ok (.iaload, 1)) h0 h1 ?_
  refine g_base (by decide +kernel : decode (m_byt 282) 37 = .ok (.bipush 63, 2)) rfl rfl ?_
  show m_run Z (282, 39, [(4, x0), l1, l2, l3, (0, x4), l5, l6], [(0, 63), (0, (Z.2 (w32 x4).toNat).toInt)], h) = _
  refine g_base (by decide +kernel : decode (m_byt 282) 39 = .ok (.iand, 1)) rfl rfl ?_
  show m_run Z (282, 40, [(4, x0), l1, l2, l3, (0, x4), l5, l6], [(0, (i_and (Z.2 (w32 x4).toNat).toInt 63))], h) = _
  exact g_swk (k := 6) (t := 604) (off := 564) (by decide +kernel : decode (m_byt 282) 40 = .ok (.tableswitch 2348 0 34 #[156, 212, 292, 348, 416, 484, 564, 620, 676, 744, 812, 880, 948, 1016, 1029, 1133, 1220, 1324, 1416, 1496, 1564, 1632, 1688, 1744, 1812, 1880, 1948, 2028, 2096, 2164, 2220, 2233, 2246, 2290, 2334], 156)) (by decide) hx rfl (by decide) rfl
theorem b_282_33_7 {Z : mZ} {l1 l2 l3 l5 l6 : mV} {x0 x4 : Int} {h : mH} (h0 : 0 ≤ w32 x4) (h1 : w32 x4 < (Z.1 : Int)) (hx : w32 (i_and (Z.2 (w32 x4).toNat).toInt 63) = 7) : m_run Z (282, 33, [(4, x0), l1, l2, l3, (0, x4), l5, l6], [], h) = m_run Z (282, 660, [(4, x0), l1, l2, l3, (0, x4), l5, l6], [], h) := by
  refine g_aload_n (k := 0) (v := (4, x0)) (by decide +kernel : decode (m_byt 282) 33 = .ok (.aload_n 0, 1)) rfl (Or.inr (Or.inr rfl)) ?_
  refine g_iload (k := 4) (x := x4) (by decide +kernel : decode (m_byt 282) 34 = .ok (.iload 4, 2)) rfl ?_
  refine g_sald (by decide +kernel : decode (m_byt 282) 36 = .ok (.iaload, 1)) h0 h1 ?_
  refine g_base (by decide +kernel : decode (m_byt 282) 37 = .ok (.bipush 63, 2)) rfl rfl ?_
  show m_run Z (282, 39, [(4, x0), l1, l2, l3, (0, x4), l5, l6], [(0, 63), (0, (Z.2 (w32 x4).toNat).toInt)], h) = _
  refine g_base (by decide +kernel : decode (m_byt 282) 39 = .ok (.iand, 1)) rfl rfl ?_
  show m_run Z (282, 40, [(4, x0), l1, l2, l3, (0, x4), l5, l6], [(0, (i_and (Z.2 (w32 x4).toNat).toInt 63))], h) = _
  exact g_swk (k := 7) (t := 660) (off := 620) (by decide +kernel : decode (m_byt 282) 40 = .ok (.tableswitch 2348 0 34 #[156, 212, 292, 348, 416, 484, 564, 620, 676, 744, 812, 880, 948, 1016, 1029, 1133, 1220, 1324, 1416, 1496, 1564, 1632, 1688, 1744, 1812, 1880, 1948, 2028, 2096, 2164, 2220, 2233, 2246, 2290, 2334], 156)) (by decide) hx rfl (by decide) rfl
theorem b_282_33_8 {Z : mZ} {l1 l2 l3 l5 l6 : mV} {x0 x4 : Int} {h : mH} (h0 : 0 ≤ w32 x4) (h1 : w32 x4 < (Z.1 : Int)) (hx : w32 (i_and (Z.2 (w32 x4).toNat).toInt 63) = 8) : m_run Z (282, 33, [(4, x0), l1, l2, l3, (0, x4), l5, l6], [], h) = m_run Z (282, 716, [(4, x0), l1, l2, l3, (0, x4), l5, l6], [], h) := by
  refine g_aload_n (k := 0) (v := (4, x0)) (by decide +kernel : decode (m_byt 282) 33 = .ok (.aload_n 0, 1)) rfl (Or.inr (Or.inr rfl)) ?_
  refine g_iload (k := 4) (x := x4) (by decide +kernel : decode (m_byt 282) 34 = .ok (.iload 4, 2)) rfl ?_
  refine g_sald (by decide +kernel : decode (m_byt 282) 36 = .ok (.iaload, 1)) h0 h1 ?_
  refine g_base (by decide +kernel : decode (m_byt 282) 37 = .ok (.bipush 63, 2)) rfl rfl ?_
  show m_run Z (282, 39, [(4, x0), l1, l2, l3, (0, x4), l5, l6], [(0, 63), (0, (Z.2 (w32 x4).toNat).toInt)], h) = _
  refine g_base (by decide +kernel : decode (m_byt 282) 39 = .ok (.iand, 1)) rfl rfl ?_
  show m_run Z (282, 40, [(4, x0), l1, l2, l3, (0, x4), l5, l6], [(0, (i_and (Z.2 (w32 x4).toNat).toInt 63))], h) = _
  exact g_swk (k := 8) (t := 716) (off := 676) (by decide +kernel : decode (m_byt 282) 40 = .ok (.tableswitch 2348 0 34 #[156, 212, 292, 348, 416, 484, 564, 620, 676, 744, 812, 880, 948, 1016, 1029, 1133, 1220, 1324, 1416, 1496, 1564, 1632, 1688, 1744, 1812, 1880, 1948, 2028, 2096, 2164, 2220, 2233, 2246, 2290, 2334], 156)) (by decide) hx rfl (by decide) rfl
theorem b_282_33_9 {Z : mZ} {l1 l2 l3 l5 l6 : mV} {x0 x4 : Int} {h : mH} (h0 : 0 ≤ w32 x4) (h1 : w32 x4 < (Z.1 : Int)) (hx : w32 (i_and (Z.2 (w32 x4).toNat).toInt 63) = 9) : m_run Z (282, 33, [(4, x0), l1, l2, l3, (0, x4), l5, l6], [], h) = m_run Z (282, 784, [(4, x0), l1, l2, l3, (0, x4), l5, l6], [], h) := by
  refine g_aload_n (k := 0) (v := (4, x0)) (by decide +kernel : decode (m_byt 282) 33 = .ok (.aload_n 0, 1)) rfl (Or.inr (Or.inr rfl)) ?_
  refine g_iload (k := 4) (x := x4) (by decide +kernel : decode (m_byt 282) 34 = .ok (.iload 4, 2)) rfl ?_
  refine g_sald (by decide +kernel : decode (m_byt 282) 36 = .ok (.iaload, 1)) h0 h1 ?_
  refine g_base (by decide +kernel : decode (m_byt 282) 37 = .ok (.bipush 63, 2)) rfl rfl ?_
  show m_run Z (282, 39, [(4, x0), l1, l2, l3, (0, x4), l5, l6], [(0, 63), (0, (Z.2 (w32 x4).toNat).toInt)], h) = _
  refine g_base (by decide +kernel : decode (m_byt 282) 39 = .ok (.iand, 1)) rfl rfl ?_
  show m_run Z (282, 40, [(4, x0), l1, l2, l3, (0, x4), l5, l6], [(0, (i_and (Z.2 (w32 x4).toNat).toInt 63))], h) = _
  exact g_swk (k := 9) (t := 784) (off := 744) (by decide +kernel : decode (m_byt 282) 40 = .ok (.tableswitch 2348 0 34 #[156, 212, 292, 348, 416, 484, 564, 620, 676, 744, 812, 880, 948, 1016, 1029, 1133, 1220, 1324, 1416, 1496, 1564, 1632, 1688, 1744, 1812, 1880, 1948, 2028, 2096, 2164, 2220, 2233, 2246, 2290, 2334], 156)) (by decide) hx rfl (by decide) rfl
theorem b_282_33_10 {Z : mZ} {l1 l2 l3 l5 l6 : mV} {x0 x4 : Int} {h : mH} (h0 : 0 ≤ w32 x4) (h1 : w32 x4 < (Z.1 : Int)) (hx : w32 (i_and (Z.2 (w32 x4).toNat).toInt 63) = 10) : m_run Z (282, 33, [(4, x0), l1, l2, l3, (0, x4), l5, l6], [], h) = m_run Z (282, 852, [(4, x0), l1, l2, l3, (0, x4), l5, l6], [], h) := by
  refine g_aload_n (k := 0) (v := (4, x0)) (by decide +kernel : decode (m_byt 282) 33 = .ok (.aload_n 0, 1)) rfl (Or.inr (Or.inr rfl)) ?_
  refine g_iload (k := 4) (x := x4) (by decide +kernel : decode (m_byt 282) 34 = .ok (.iload 4, 2)) rfl ?_
  refine g_sald (by decide +kernel : decode (m_byt 282) 36 = .ok (.iaload, 1)) h0 h1 ?_
  refine g_base (by decide +kernel : decode (m_byt 282) 37 = .ok (.bipush 63, 2)) rfl rfl ?_
  show m_run Z (282, 39, [(4, x0), l1, l2, l3, (0, x4), l5, l6], [(0, 63), (0, (Z.2 (w32 x4).toNat).toInt)], h) = _
  refine g_base (by decide +kernel : decode (m_byt 282) 39 = .ok (.iand, 1)) rfl rfl ?_
  show m_run Z (282, 40, [(4, x0), l1, l2, l3, (0, x4), l5, l6], [(0, (i_and (Z.2 (w32 x4).toNat).toInt 63))], h) = _
  exact g_swk (k := 10) (t := 852) (off := 812) (by decide +kernel : decode (m_byt 282) 40 = .ok (.tableswitch 2348 0 34 #[156, 212, 292, 348, 416, 484, 564, 620, 676, 744, 812, 880, 948, 1016, 1029, 1133, 1220, 1324, 1416, 1496, 1564, 1632, 1688, 1744, 1812, 1880, 1948, 2028, 2096, 2164, 2220, 2233, 2246, 2290, 2334], 156)) (by decide) hx rfl (by decide) rfl
theorem b_282_33_11 {Z : mZ} {l1 l2 l3 l5 l6 : mV} {x0 x4 : Int} {h : mH} (h0 : 0 ≤ w32 x4) (h1 : w32 x4 < (Z.1 : Int)) (hx : w32 (i_and (Z.2 (w32 x4).toNat).toInt 63) = 11) : m_run Z (282, 33, [(4, x0), l1, l2, l3, (0, x4), l5, l6], [], h) = m_run Z (282, 920, [(4, x0), l1, l2, l3, (0, x4), l5, l6], [], h) := by
  refine g_aload_n (k := 0) (v := (4, x0)) (by decide +kernel : decode (m_byt 282) 33 = .ok (.aload_n 0, 1)) rfl (Or.inr (Or.inr rfl)) ?_
  refine g_iload (k := 4) (x := x4) (by decide +kernel : decode (m_byt 282) 34 = .ok (.iload 4, 2)) rfl ?_
  refine g_sald (by decide +kernel : decode (m_byt 282) 36 = .ok (.iaload, 1)) h0 h1 ?_
  refine g_base (by decide +kernel : decode (m_byt 282) 37 = .ok (.bipush 63, 2)) rfl rfl ?_
  show m_run Z (282, 39, [(4, x0), l1, l2, l3, (0, x4), l5, l6], [(0, 63), (0, (Z.2 (w32 x4).toNat).toInt)], h) = _
  refine g_base (by decide +kernel : decode (m_byt 282) 39 = .ok (.iand, 1)) rfl rfl ?_
  show m_run Z (282, 40, [(4, x0), l1, l2, l3, (0, x4), l5, l6], [(0, (i_and (Z.2 (w32 x4).toNat).toInt 63))], h) = _
  exact g_swk (k := 11) (t := 920) (off := 880) (by decide +kernel : decode (m_byt 282) 40 = .ok (.tableswitch 2348 0 34 #[156, 212, 292, 348, 416, 484, 564, 620, 676, 744, 812, 880, 948, 1016, 1029, 1133, 1220, 1324, 1416, 1496, 1564, 1632, 1688, 1744, 1812, 1880, 1948, 2028, 2096, 2164, 2220, 2233, 2246, 2290, 2334], 156)) (by decide) hx rfl (by decide) rfl
theorem b_282_33_12 {Z : mZ} {l1 l2 l3 l5 l6 : mV} {x0 x4 : Int} {h : mH} (h0 : 0 ≤ w32 x4) (h1 : w32 x4 < (Z.1 : Int)) (hx : w32 (i_and (Z.2 (w32 x4).toNat).toInt 63) = 12) : m_run Z (282, 33, [(4, x0), l1, l2, l3, (0, x4), l5, l6], [], h) = m_run Z (282, 988, [(4, x0), l1, l2, l3, (0, x4), l5, l6], [], h) := by
  refine g_aload_n (k := 0) (v := (4, x0)) (by decide +kernel : decode (m_byt 282) 33 = .ok (.aload_n 0, 1)) rfl (Or.inr (Or.inr rfl)) ?_
  refine g_iload (k := 4) (x := x4) (by decide +kernel : decode (m_byt 282) 34 = .ok (.iload 4, 2)) rfl ?_
  refine g_sald (by decide +kernel : decode (m_byt 282) 36 = .ok (.iaload, 1)) h0 h1 ?_
  refine g_base (by decide +kernel : decode (m_byt 282) 37 = .ok (.bipush 63, 2)) rfl rfl ?_
  show m_run Z (282, 39, [(4, x0), l1, l2, l3, (0, x4), l5, l6], [(0, 63), (0, (Z.2 (w32 x4).toNat).toInt)], h) = _
  refine g_base (by decide +kernel : decode (m_byt 282) 39 = .ok (.iand, 1)) rfl rfl ?_
  show m_run Z (282, 40, [(4, x0), l1, l2, l3, (0, x4), l5, l6], [(0, (i_and (Z.2 (w32 x4).toNat).toInt 63))], h) = _
  exact g_swk (k := 12) (t := 988) (off := 948) (by decide +kernel : decode (m_byt 282) 40 = .ok (.tableswitch 2348 0 34 #[156, 212, 292, 348, 416, 484, 564, 620, 676, 744, 812, 880, 948, 1016, 1029, 1133, 1220, 1324, 1416, 1496, 1564, 1632, 1688, 1744, 1812, 1880, 1948, 2028, 2096, 2164, 2220, 2233, 2246, 2290, 2334], 156)) (by decide) hx rfl (by decide) rfl
theorem b_282_33_13 {Z : mZ} {l1 l2 l3 l5 l6 : mV} {x0 x4 : Int} {h : mH} (h0 : 0 ≤ w32 x4) (h1 : w32 x4 < (Z.1 : Int)) (hx : w32 (i_and (Z.2 (w32 x4).toNat).toInt 63) = 13) : m_run Z (282, 33, [(4, x0), l1, l2, l3, (0, x4), l5, l6], [], h) = m_run Z (282, 1056, [(4, x0), l1, l2, l3, (0, x4), l5, l6], [], h) := by
  refine g_aload_n (k := 0) (v := (4, x0)) (by decide +kernel : decode (m_byt 282) 33 = .ok (.aload_n 0, 1)) rfl (Or.inr (Or.inr rfl)) ?_
  refine g_iload (k := 4) (x := x4) (by decide +kernel : decode (m_byt 282) 34 = .ok (.iload 4, 2)) rfl ?_
  refine g_sald (by decide +kernel : decode (m_byt 282) 36 = .ok (.iaload, 1)) h0 h1 ?_
  refine g_base (by decide +kernel : decode (m_byt 282) 37 = .ok (.bipush 63, 2)) rfl rfl ?_
  show m_run Z (282, 39, [(4, x0), l1, l2, l3, (0, x4), l5, l6], [(0, 63), (0, (Z.2 (w32 x4).toNat).toInt)], h) = _
  refine g_base (by decide +kernel : decode (m_byt 282) 39 = .ok (.iand, 1)) rfl rfl ?_
  show m_run Z (282, 40, [(4, x0), l1, l2, l3, (0, x4), l5, l6], [(0, (i_and (Z.2 (w32 x4).toNat).toInt 63))], h) = _
  exact g_swk (k := 13) (t := 1056) (off := 1016) (by decide +kernel : decode (m_byt 282) 40 = .ok (.tableswitch 2348 0 34 #[156, 212, 292, 348, 416, 484, 564, 620, 676, 744, 812, 880, 948, 1016, 1029, 1133, 1220, 1324, 1416, 1496, 1564, 1632, 1688, 1744, 1812, 1880, 1948, 2028, 2096, 2164, 2220, 2233, 2246, 2290, 2334], 156)) (by decide) hx rfl (by decide) rfl
theorem b_282_33_14 {Z : mZ} {l1 l2 l3 l5 l6 : mV} {x0 x4 : Int} {h : mH} (h0 : 0 ≤ w32 x4) (h1 : w32 x4 < (Z.1 : Int)) (hx : w32 (i_and (Z.2 (w32 x4).toNat).toInt 63) = 14) : m_run Z (282, 33, [(4, x0), l1, l2, l3, (0, x4), l5, l6], [], h) = m_run Z (282, 1069, [(4, x0), l1, l2, l3, (0, x4), l5, l6], [], h) := by
  refine g_aload_n (k := 0) (v := (4, x0)) (by decide +kernel : decode (m_byt 282) 33 = .ok (.aload_n 0, 1)) rfl (Or.inr (Or.inr rfl)) ?_
  refine g_iload (k := 4) (x := x4) (by decide +kernel : decode (m_byt 282) 34 = .ok (.iload 4, 2)) rfl ?_
  refine g_sald (by decide +kernel : decode (m_byt 282) 36 = .ok (.iaload, 1)) h0 h1 ?_
  refine g_base (by decide +kernel : decode (m_byt 282) 37 = .ok (.bipush 63, 2)) rfl rfl ?_
  show m_run Z (282, 39, [(4, x0), l1, l2, l3, (0, x4), l5, l6], [(0, 63), (0, (Z.2 (w32 x4).toNat).toInt)], h) = _
  refine g_base (by decide +kernel : decode (m_byt 282) 39 = .ok (.iand, 1)) rfl rfl ?_
  show m_run Z (282, 40, [(4, x0), l1, l2, l3, (0, x4), l5, l6], [(0, (i_and (Z.2 (w32 x4).toNat).toInt 63))], h) = _
  exact g_swk (k := 14) (t := 1069) (off := 1029) (by decide +kernel : decode (m_byt 282) 40 = .ok (.tableswitch 2348 0 34 #[156, 212, 292, 348, 416, 484, 564, 620, 676, 744, 812, 880, 948, 1016, 1029, 1133, 1220, 1324, 1416, 1496, 1564, 1632, 1688, 1744, 1812, 1880, 1948, 2028, 2096, 2164, 2220, 2233, 2246, 2290, 2334], 156)) (by decide) hx rfl (by decide) rfl
theorem b_282_33_15 {Z : mZ} {l1 l2 l3 l5 l6 : mV} {x0 x4 : Int} {h : mH} (h0 : 0 ≤ w32 x4) (h1 : w32 x4 < (Z.1 : Int)) (hx : w32 (i_and (Z.2 (w32 x4).toNat).toInt 63) = 15) : m_run Z (282, 33, [(4, x0), l1, l2, l3, (0, x4), l5, l6], [], h) = m_run Z (282, 1173, [(4, x0), l1, l2, l3, (0, x4), l5, l6], [], h) := by
  refine g_aload_n (k := 0) (v := (4, x0)) (by decide +kernel : decode (m_byt 282) 33 = .ok (.aload_n 0, 1)) rfl (Or.inr (Or.inr rfl)) ?_
  refine g_iload (k := 4) (x := x4) (by decide +kernel : decode (m_byt 282) 34 = .ok (.iload 4, 2)) rfl ?_
  refine g_sald (by decide +kernel : decode (m_byt 282) 36 = .ok (.iaload, 1)) h0 h1 ?_
  refine g_base (by decide +kernel : decode (m_byt 282) 37 = .ok (.bipush 63, 2)) rfl rfl ?_
  show m_run Z (282, 39, [(4, x0), l1, l2, l3, (0, x4), l5, l6], [(0, 63), (0, (Z.2 (w32 x4).toNat).toInt)], h) = _
  refine g_base (by decide +kernel : decode (m_byt 282) 39 = .ok (.iand, 1)) rfl rfl ?_
  show m_run Z (282, 40, [(4, x0), l1, l2, l3, (0, x4), l5, l6], [(0, (i_and (Z.2 (w32 x4).toNat).toInt 63))], h) = _
  exact g_swk (k := 15) (t := 1173) (off := 1133) (by decide +kernel : decode (m_byt 282) 40 = .ok (.tableswitch 2348 0 34 #[156, 212, 292, 348, 416, 484, 564, 620, 676, 744, 812, 880, 948, 1016, 1029, 1133, 1220, 1324, 1416, 1496, 1564, 1632, 1688, 1744, 1812, 1880, 1948, 2028, 2096, 2164, 2220, 2233, 2246, 2290, 2334], 156)) (by decide) hx rfl (by decide) rfl
theorem b_282_33_16 {Z : mZ} {l1 l2 l3 l5 l6 : mV} {x0 x4 : Int} {h : mH} (h0 : 0 ≤ w32 x4) (h1 : w32 x4 < (Z.1 : Int)) (hx : w32 (i_and (Z.2 (w32 x4).toNat).toInt 63) = 16) : m_run Z (282, 33, [(4, x0), l1, l2, l3, (0, x4), l5, l6], [], h) = m_run Z (282, 1260, [(4, x0), l1, l2, l3, (0, x4), l5, l6], [], h) := by
  refine g_aload_n (k := 0) (v := (4, x0)) (by decide +kernel : decode (m_byt 282) 33 = .ok (.aload_n 0, 1)) rfl (Or.inr (Or.inr rfl)) ?_
  refine g_iload (k := 4) (x := x4) (by decide +kernel : decode (m_byt 282) 34 = .ok (.iload 4, 2)) rfl ?_
  refine g_sald (by decide +kernel : decode (m_byt 282) 36 = .ok (.iaload, 1)) h0 h1 ?_
  refine g_base (by decide +kernel : decode (m_byt 282) 37 = .ok (.bipush 63, 2)) rfl rfl ?_
  show m_run Z (282, 39, [(4, x0), l1, l2, l3, (0, x4), l5, l6], [(0, 63), (0, (Z.2 (w32 x4).toNat).toInt)], h) = _
  refine g_base (by decide +kernel : decode (m_byt 282) 39 = .ok (.iand, 1)) rfl rfl ?_
  show m_run Z (282, 40, [(4, x0), l1, l2, l3, (0, x4), l5, l6], [(0, (i_and (Z.2 (w32 x4).toNat).toInt 63))], h) = _
  exact g_swk (k := 16) (t := 1260) (off := 1220) (by decide +kernel : decode (m_byt 282) 40 = .ok (.tableswitch 2348 0 34 #[156, 212, 292, 348, 416, 484, 564, 620, 676, 744, 812, 880, 948, 1016, 1029, 1133, 1220, 1324, 1416, 1496, 1564, 1632, 1688, 1744, 1812, 1880, 1948, 2028, 2096, 2164, 2220, 2233, 2246, 2290, 2334], 156)) (by decide) hx rfl (by decide) rfl
theorem b_282_33_17 {Z : mZ} {l1 l2 l3 l5 l6 : mV} {x0 x4 : Int} {h : mH} (h0 : 0 ≤ w32 x4) (h1 : w32 x4 < (Z.1 : Int)) (hx : w32 (i_and (Z.2 (w32 x4).toNat).toInt 63) = 17) : m_run Z (282, 33, [(4, x0), l1, l2, l3, (0, x4), l5, l6], [], h) = m_run Z (282, 1364, [(4, x0), l1, l2, l3, (0, x4), l5, l6], [], h) := by
  refine g_aload_n (k := 0) (v := (4, x0)) (by decide +kernel : decode (m_byt 282) 33 = .ok (.aload_n 0, 1)) rfl (Or.inr (Or.inr rfl)) ?_
  refine g_iload (k := 4) (x := x4) (by decide +kernel : decode (m_byt 282) 34 = .ok (.iload 4, 2)) rfl ?_
  refine g_sald (by decide +kernel : decode (m_byt 282) 36 = .ok (.iaload, 1)) h0 h1 ?_
  refine g_base (by decide +kernel : decode (m_byt 282) 37 = .ok (.bipush 63, 2)) rfl rfl ?_
  show m_run Z (282, 39, [(4, x0), l1, l2, l3, (0, x4), l5, l6], [(0, 63), (0, (Z.2 (w32 x4).toNat).toInt)], h) = _
  refine g_base (by decide +kernel : decode (m_byt 282) 39 = .ok (.iand, 1)) rfl rfl ?_
  show m_run Z (282, 40, [(4, x0), l1, l2, l3, (0, x4), l5, l6], [(0, (i_and (Z.2 (w32 x4).toNat).toInt 63))], h) = _
  exact g_swk (k := 17) (t := 1364) (off := 1324) (by decide +kernel : decode (m_byt 282) 40 = .ok (.tableswitch 2348 0 34 #[156, 212, 292, 348, 416, 484, 564, 620, 676, 744, 812, 880, 948, 1016, 1029, 1133, 1220, 1324, 1416, 1496, 1564, 1632, 1688, 1744, 1812, 1880, 1948, 2028, 2096, 2164, 2220, 2233, 2246, 2290, 2334], 156)) (by decide) hx rfl (by decide) rfl
theorem b_282_33_18 {Z : mZ} {l1 l2 l3 l5 l6 : mV} {x0 x4 : Int} {h : mH} (h0 : 0 ≤ w32 x4) (h1 : w32 x4 < (Z.1 : Int)) (hx : w32 (i_and (Z.2 (w32 x4).toNat).toInt 63) = 18) : m_run Z (282, 33, [(4, x0), l1, l2, l3, (0, x4), l5, l6], [], h) = m_run Z (282, 1456, [(4, x0), l1, l2, l3, (0, x4), l5, l6], [], h) := by
  refine g_aload_n (k := 0) (v := (4, x0)) (by decide +kernel : decode (m_byt 282) 33 = .ok (.aload_n 0, 1)) rfl (Or.inr (Or.inr rfl)) ?_
  refine g_iload (k := 4) (x := x4) (by decide +kernel : decode (m_byt 282) 34 = .ok (.iload 4, 2)) rfl ?_
  refine g_sald (by decide +kernel : decode (m_byt 282) 36 = .ok (.iaload, 1)) h0 h1 ?_
  refine g_base (by decide +kernel : decode (m_byt 282) 37 = .ok (.bipush 63, 2)) rfl rfl ?_
  show m_run Z (282, 39, [(4, x0), l1, l2, l3, (0, x4), l5, l6], [(0, 63), (0, (Z.2 (w32 x4).toNat).toInt)], h) = _
  refine g_base (by decide +kernel : decode (m_byt 282) 39 = .ok (.iand, 1)) rfl rfl ?_
  show m_run Z (282, 40, [(4, x0), l1, l2, l3, (0, x4), l5, l6], [(0, (i_and (Z.2 (w32 x4).toNat).toInt 63))], h) = _
  exact g_swk (k := 18) (t := 1456) (off := 1416) (by decide +kernel : decode (m_byt 282) 40 = .ok (.tableswitch 2348 0 34 #[156, 212, 292, 348, 416, 484, 564, 620, 676, 744, 812, 880, 948, 1016, 1029, 1133, 1220, 1324, 1416, 1496, 1564, 1632, 1688, 1744, 1812, 1880, 1948, 2028, 2096, 2164, 2220, 2233, 2246, 2290, 2334], 156)) (by decide) hx rfl (by decide) rfl
theorem b_282_33_19 {Z : mZ} {l1 l2 l3 l5 l6 : mV} {x0 x4 : Int} {h : mH} (h0 : 0 ≤ w32 x4) (h1 : w32 x4 < (Z.1 : Int)) (hx : w32 (i_and (Z.2 (w32 x4).toNat).toInt 63) = 19) : m_run Z (282, 33, [(4, x0), l1, l2, l3, (0, x4), l5, l6], [], h) = m_run Z (282, 1536, [(4, x0), l1, l2, l3, (0, x4), l5, l6], [], h) := by
  refine g_aload_n (k := 0) (v := (4, x0)) (by decide +kernel : decode (m_byt 282) 33 = .ok (.aload_n 0, 1)) rfl (Or.inr (Or.inr rfl)) ?_
  refine g_iload (k := 4) (x := x4) (by decide +kernel : decode (m_byt 282) 34 = .ok (.iload 4, 2)) rfl ?_
  refine g_sald (by decide +kernel : decode (m_byt 282) 36 = .ok (.iaload, 1)) h0 h1 ?_
  refine g_base (by decide +kernel : decode (m_byt 282) 37 = .ok (.bipush 63, 2)) rfl rfl ?_
  show m_run Z (282, 39, [(4, x0), l1, l2, l3, (0, x4), l5, l6], [(0, 63), (0, (Z.2 (w32 x4).toNat).toInt)], h) = _
  refine g_base (by decide +kernel : decode (m_byt 282) 39 = .ok (.iand, 1)) rfl rfl ?_
  show m_run Z (282, 40, [(4, x0), l1, l2, l3, (0, x4), l5, l6], [(0, (i_and (Z.2 (w32 x4).toNat).toInt 63))], h) = _
  exact g_swk (k := 19) (t := 1536) (off := 1496) (by decide +kernel : decode (m_byt 282) 40 = .ok (.tableswitch 2348 0 34 #[156, 212, 292, 348, 416, 484, 564, 620, 676, 744, 812, 880, 948, 1016, 1029, 1133, 1220, 1324, 1416, 1496, 1564, 1632, 1688, 1744, 1812, 1880, 1948, 2028, 2096, 2164, 2220, 2233, 2246, 2290, 2334], 156)) (by decide) hx rfl (by decide) rfl
theorem b_282_33_20 {Z : mZ} {l1 l2 l3 l5 l6 : mV} {x0 x4 : Int} {h : mH} (h0 : 0 ≤ w32 x4) (h1 : w32 x4 < (Z.1 : Int)) (hx : w32 (i_and (Z.2 (w32 x4).toNat).toInt 63) = 20) : m_run Z (282, 33, [(4, x0), l1, l2, l3, (0, x4), l5, l6], [], h) = m_run Z (282, 1604, [(4, x0), l1, l2, l3, (0, x4), l5, l6], [], h) := by
  refine g_aload_n (k := 0) (v := (4, x0)) (by decide +kernel : decode (m_byt 282) 33 = .ok (.aload_n 0, 1)) rfl (Or.inr (Or.inr rfl)) ?_
  refine g_iload (k := 4) (x := x4) (by decide +kernel : decode (m_byt 282) 34 = .ok (.iload 4, 2)) rfl ?_
  refine g_sald (by decide +kernel : decode (m_byt 282) 36 = .ok (.iaload, 1)) h0 h1 ?_
  refine g_base (by decide +kernel : decode (m_byt 282) 37 = .ok (.bipush 63, 2)) rfl rfl ?_
  show m_run Z (282, 39, [(4, x0), l1, l2, l3, (0, x4), l5, l6], [(0, 63), (0, (Z.2 (w32 x4).toNat).toInt)], h) = _
  refine g_base (by decide +kernel : decode (m_byt 282) 39 = .ok (.iand, 1)) rfl rfl ?_
  show m_run Z (282, 40, [(4, x0), l1, l2, l3, (0, x4), l5, l6], [(0, (i_and (Z.2 (w32 x4).toNat).toInt 63))], h) = _
  exact g_swk (k := 20) (t := 1604) (off := 1564) (by decide +kernel : decode (m_byt 282) 40 = .ok (.tableswitch 2348 0 34 #[156, 212, 292, 348, 416, 484, 564, 620, 676, 744, 812, 880, 948, 1016, 1029, 1133, 1220, 1324, 1416, 1496, 1564, 1632, 1688, 1744, 1812, 1880, 1948, 2028, 2096, 2164, 2220, 2233, 2246, 2290, 2334], 156)) (by decide) hx rfl (by decide) rfl
theorem b_282_33_21 {Z : mZ} {l1 l2 l3 l5 l6 : mV} {x0 x4 : Int} {h : mH} (h0 : 0 ≤ w32 x4) (h1 : w32 x4 < (Z.1 : Int)) (hx : w32 (i_and (Z.2 (w32 x4).toNat).toInt 63) = 21) : m_run Z (282, 33, [(4, x0), l1, l2, l3, (0, x4), l5, l6], [], h) = m_run Z (282, 1672, [(4, x0), l1, l2, l3, (0, x4), l5, l6], [], h) := by
  refine g_aload_n (k := 0) (v := (4, x0)) (by decide +kernel : decode (m_byt 282) 33 = .ok (.aload_n 0, 1)) rfl (Or.inr (Or.inr rfl)) ?_
  refine g_iload (k := 4) (x := x4) (by decide +kernel : decode (m_byt 282) 34 = .ok (.iload 4, 2)) rfl ?_
  refine g_sald (by decide +kernel : decode (m_byt 282) 36 = .ok (.iaload, 1)) h0 h1 ?_
  refine g_base (by decide +kernel : decode (m_byt 282) 37 = .ok (.bipush 63, 2)) rfl rfl ?_
  show m_run Z (282, 39, [(4, x0), l1, l2, l3, (0, x4), l5, l6], [(0, 63), (0, (Z.2 (w32 x4).toNat).toInt)], h) = _
  refine g_base (by decide +kernel : decode (m_byt 282) 39 = .ok (.iand, 1)) rfl rfl ?_
  show m_run Z (282, 40, [(4, x0), l1, l2, l3, (0, x4), l5, l6], [(0, (i_and (Z.2 (w32 x4).toNat).toInt 63))], h) = _
  exact g_swk (k := 21) (t := 1672) (off := 1632) (by decide +kernel : decode (m_byt 282) 40 = .ok (.tableswitch 2348 0 34 #[156, 212, 292, 348, 416, 484, 564, 620, 676, 744, 812, 880, 948, 1016, 1029, 1133, 1220, 1324, 1416, 1496, 1564, 1632, 1688, 1744, 1812, 1880, 1948, 2028, 2096, 2164, 2220, 2233, 2246, 2290, 2334], 156)) (by decide) hx rfl (by decide) rfl
theorem b_282_33_22 {Z : mZ} {l1 l2 l3 l5 l6 : mV} {x0 x4 : Int} {h : mH} (h0 : 0 ≤ w32 x4) (h1 : w32 x4 < (Z.1 : Int)) (hx : w32 (i_and (Z.2 (w32 x4).toNat).toInt 63) = 22) : m_run Z (282, 33, [(4, x0), l1, l2, l3, (0, x4), l5, l6], [], h) = m_run Z (282, 1728, [(4, x0), l1, l2, l3, (0, x4), l5, l6], [], h) := by
  refine g_aload_n (k := 0) (v := (4, x0)) (by decide +kernel : decode (m_byt 282) 33 = .ok (.aload_n 0, 1)) rfl (Or.inr (Or.inr rfl)) ?_
  refine g_iload (k := 4) (x := x4) (by decide +kernel : decode (m_byt 282) 34 = .ok (.iload 4, 2)) rfl ?_
  refine g_sald (by decide +kernel : decode (m_byt 282) 36 = .ok (.iaload, 1)) h0 h1 ?_
  refine g_base (by decide +kernel : decode (m_byt 282) 37 = .ok (.bipush 63, 2)) rfl rfl ?_
  show m_run Z (282, 39, [(4, x0), l1, l2, l3, (0, x4), l5, l6], [(0, 63), (0, (Z.2 (w32 x4).toNat).toInt)], h) = _
  refine g_base (by decide +kernel : decode (m_byt 282) 39 = .ok (.iand, 1)) rfl rfl ?_
  show m_run Z (282, 40, [(4, x0), l1, l2, l3, (0, x4), l5, l6], [(0, (i_and (Z.2 (w32 x4).toNat).toInt 63))], h) = _
  exact g_swk (k := 22) (t := 1728) (off := 1688) (by decide +kernel : decode (m_byt 282) 40 = .ok (.tableswitch 2348 0 34 #[156, 212, 292, 348, 416, 484, 564, 620, 676, 744, 812, 880, 948, 1016, 1029, 1133, 1220, 1324, 1416, 1496, 1564, 1632, 1688, 1744, 1812, 1880, 1948, 2028, 2096, 2164, 2220, 2233, 2246, 2290, 2334], 156)) (by decide) hx rfl (by decide) rfl
theorem b_282_33_23 {Z : mZ} {l1 l2 l3 l5 l6 : mV} {x0 x4 : Int} {h : mH} (h0 : 0 ≤ w32 x4) (h1 : w32 x4 < (Z.1 : Int)) (hx : w32 (i_and (Z.2 (w32 x4).toNat).toInt 63) = 23) : m_run Z (282, 33, [(4, x0), l1, l2, l3, (0, x4), l5, l6], [], h) = m_run Z (282, 1784, [(4, x0), l1, l2, l3, (0, x4), l5, l6], [], h) := by
  refine g_aload_n (k := 0) (v := (4, x0)) (by decide +kernel : decode (m_byt 282) 33 = .ok (.aload_n 0, 1)) rfl (Or.inr (Or.inr rfl)) ?_
  refine g_iload (k := 4) (x := x4) (by decide +kernel : decode (m_byt 282) 34 = .ok (.iload 4, 2)) rfl ?_
  refine g_sald (by decide +kernel : decode (m_byt 282) 36 = .ok (.iaload, 1)) h0 h1 ?_
  refine g_base (by decide +kernel : decode (m_byt 282) 37 = .ok (.bipush 63, 2)) rfl rfl ?_
  show m_run Z (282, 39, [(4, x0), l1, l2, l3, (0, x4), l5, l6], [(0, 63), (0, (Z.2 (w32 x4).toNat).toInt)], h) = _
  refine g_base (by decide +kernel : decode (m_byt 282) 39 = .ok (.iand, 1)) rfl rfl ?_
  show m_run Z (282, 40, [(4, x0), l1, l2, l3, (0, x4), l5, l6], [(0, (i_and (Z.2 (w32 x4).toNat).toInt 63))], h) = _
  exact g_swk (k := 23) (t := 1784) (off := 1744) (by decide +kernel : decode (m_byt 282) 40 = .ok (.tableswitch 2348 0 34 #[156, 212, 292, 348, 416, 484, 564, 620, 676, 744, 812, 880, 948, 1016, 1029, 1133, 1220, 1324, 1416, 1496, 1564, 1632, 1688, 1744, 1812, 1880, 1948, 2028, 2096, 2164, 2220, 2233, 2246, 2290, 2334], 156)) (by decide) hx rfl (by decide) rfl
theorem b_282_33_24 {Z : mZ} {l1 l2 l3 l5 l6 : mV} {x0 x4 : Int} {h : mH} (h0 : 0 ≤ w32 x4) (h1 : w32 x4 < (Z.1 : Int)) (hx : w32 (i_and (Z.2 (w32 x4).toNat).toInt 63) = 24) : m_run Z (282, 33, [(4, x0), l1, l2, l3, (0, x4), l5, l6], [], h) = m_run Z (282, 1852, [(4, x0), l1, l2, l3, (0, x4), l5, l6], [], h) := by
  refine g_aload_n (k := 0) (v := (4, x0)) (by decide +kernel : decode (m_byt 282) 33 = .ok (.aload_n 0, 1)) rfl (Or.inr (Or.inr rfl)) ?_
  refine g_iload (k := 4) (x := x4) (by decide +kernel : decode (m_byt 282) 34 = .ok (.iload 4, 2)) rfl ?_
  refine g_sald (by decide +kernel : decode (m_byt 282) 36 = .ok (.iaload, 1)) h0 h1 ?_
  refine g_base (by decide +kernel : decode (m_byt 282) 37 = .ok (.bipush 63, 2)) rfl rfl ?_
  show m_run Z (282, 39, [(4, x0), l1, l2, l3, (0, x4), l5, l6], [(0, 63), (0, (Z.2 (w32 x4).toNat).toInt)], h) = _
  refine g_base (by decide +kernel : decode (m_byt 282) 39 = .ok (.iand, 1)) rfl rfl ?_
  show m_run Z (282, 40, [(4, x0), l1, l2, l3, (0, x4), l5, l6], [(0, (i_and (Z.2 (w32 x4).toNat).toInt 63))], h) = _
  exact g_swk (k := 24) (t := 1852) (off := 1812) (by decide +kernel : decode (m_byt 282) 40 = .ok (.tableswitch 2348 0 34 #[156, 212, 292, 348, 416, 484, 564, 620, 676, 744, 812, 880, 948, 1016, 1029, 1133, 1220, 1324, 1416, 1496, 1564, 1632, 1688, 1744, 1812, 1880, 1948, 2028, 2096, 2164, 2220, 2233, 2246, 2290, 2334], 156)) (by decide) hx rfl (by decide) rfl
theorem b_282_33_25 {Z : mZ} {l1 l2 l3 l5 l6 : mV} {x0 x4 : Int} {h : mH} (h0 : 0 ≤ w32 x4) (h1 : w32 x4 < (Z.1 : Int)) (hx : w32 (i_and (Z.2 (w32 x4).toNat).toInt 63) = 25) : m_run Z (282, 33, [(4, x0), l1, l2, l3, (0, x4), l5, l6], [], h) = m_run Z (282, 1920, [(4, x0), l1, l2, l3, (0, x4), l5, l6], [], h) := by
  refine g_aload_n (k := 0) (v := (4, x0)) (by decide +kernel : decode (m_byt 282) 33 = .ok (.aload_n 0, 1)) rfl (Or.inr (Or.inr rfl)) ?_
  refine g_iload (k := 4) (x := x4) (by decide +kernel : decode (m_byt 282) 34 = .ok (.iload 4, 2)) rfl ?_
  refine g_sald (by decide +kernel : decode (m_byt 282) 36 = .ok (.iaload, 1)) h0 h1 ?_
  refine g_base (by decide +kernel : decode (m_byt 282) 37 = .ok (.bipush 63, 2)) rfl rfl ?_
  show m_run Z (282, 39, [(4, x0), l1, l2, l3, (0, x4), l5, l6], [(0, 63), (0, (Z.2 (w32 x4).toNat).toInt)], h) = _
  refine g_base (by decide +kernel : decode (m_byt 282) 39 = .ok (.iand, 1)) rfl rfl ?_
  show m_run Z (282, 40, [(4, x0), l1, l2, l3, (0, x4), l5, l6], [(0, (i_and (Z.2 (w32 x4).toNat).toInt 63))], h) = _
  exact g_swk (k := 25) (t := 1920) (off := 1880) (by decide +kernel : decode (m_byt 282) 40 = .ok (.tableswitch 2348 0 34 #[156, 212, 292, 348, 416, 484, 564, 620, 676, 744, 812, 880, 948, 1016, 1029, 1133, 1220, 1324, 1416, 1496, 1564, 1632, 1688, 1744, 1812, 1880, 1948, 2028, 2096, 2164, 2220, 2233, 2246, 2290, 2334], 156)) (by decide) hx rfl (by decide) rfl
theorem b_282_33_26 {Z : mZ} {l1 l2 l3 l5 l6 : mV} {x0 x4 : Int} {h : mH} (h0 : 0 ≤ w32 x4) (h1 : w32 x4 < (Z.1 : Int)) (hx : w32 (i_and (Z.2 (w32 x4).toNat).toInt 63) = 26) : m_run Z (282, 33, [(4, x0), l1, l2, l3, (0, x4), l5, l6], [], h) = m_run Z (282, 1988, [(4, x0), l1, l2, l3, (0, x4), l5, l6], [], h) := by
  refine g_aload_n (k := 0) (v := (4, x0)) (by decide +kernel : decode (m_byt 282) 33 = .ok (.aload_n 0, 1)) rfl (Or.inr (Or.inr rfl)) ?_
  refine g_iload (k := 4) (x := x4) (by decide +kernel : decode (m_byt 282) 34 = .ok (.iload 4, 2)) rfl ?_
  refine g_sald (by decide +kernel : decode (m_byt 282) 36 = .ok (.iaload, 1)) h0 h1 ?_
  refine g_base (by decide +kernel : decode (m_byt 282) 37 = .ok (.bipush 63, 2)) rfl rfl ?_
  show m_run Z (282, 39, [(4, x0), l1, l2, l3, (0, x4), l5, l6], [(0, 63), (0, (Z.2 (w32 x4).toNat).toInt)], h) = _
  refine g_base (by decide +kernel : decode (m_byt 282) 39 = .ok (.iand, 1)) rfl rfl ?_
  show m_run Z (282, 40, [(4, x0), l1, l2, l3, (0, x4), l5, l6], [(0, (i_and (Z.2 (w32 x4).toNat).toInt 63))], h) = _
  exact g_swk (k := 26) (t := 1988) (off := 1948) (by decide +kernel : decode (m_byt 282) 40 = .ok (.tableswitch 2348 0 34 #[156, 212, 292, 348, 416, 484, 564, 620, 676, 744, 812, 880, 948, 1016, 1029, 1133, 1220, 1324, 1416, 1496, 1564, 1632, 1688, 1744, 1812, 1880, 1948, 2028, 2096, 2164, 2220, 2233, 2246, 2290, 2334], 156)) (by decide) hx rfl (by decide) rfl
theorem b_282_33_27 {Z : mZ} {l1 l2 l3 l5 l6 : mV} {x0 x4 : Int} {h : mH} (h0 : 0 ≤ w32 x4) (h1 : w32 x4 < (Z.1 : Int)) (hx : w32 (i_and (Z.2 (w32 x4).toNat).toInt 63) = 27) : m_run Z (282, 33, [(4, x0), l1, l2, l3, (0, x4), l5, l6], [], h) = m_run Z (282, 2068, [(4, x0), l1, l2, l3, (0, x4), l5, l6], [], h) := by
  refine g_aload_n (k := 0) (v := (4, x0)) (by decide +kernel : decode (m_byt 282) 33 = .ok (.aload_n 0, 1)) rfl (Or.inr (Or.inr rfl)) ?_
  refine g_iload (k := 4) (x := x4) (by decide +kernel : decode (m_byt 282) 34 = .ok (.iload 4, 2)) rfl ?_
  refine g_sald (by decide +kernel : decode (m_byt 282) 36 = .ok (.iaload, 1)) h0 h1 ?_
  refine g_base (by decide +kernel : decode (m_byt 282) 37 = .ok (.bipush 63, 2)) rfl rfl ?_
  show m_run Z (282, 39, [(4, x0), l1, l2, l3, (0, x4), l5, l6], [(0, 63), (0, (Z.2 (w32 x4).toNat).toInt)], h) = _
  refine g_base (by decide +kernel : decode (m_byt 282) 39 = .ok (.iand, 1)) rfl rfl ?_
  show m_run Z (282, 40, [(4, x0), l1, l2, l3, (0, x4), l5, l6], [(0, (i_and (Z.2 (w32 x4).toNat).toInt 63))], h) = _
  exact g_swk (k := 27) (t := 2068) (off := 2028) (by decide +kernel : decode (m_byt 282) 40 = .ok (.tableswitch 2348 0 34 #[156, 212, 292, 348, 416, 484, 564, 620, 676, 744, 812, 880, 948, 1016, 1029, 1133, 1220, 1324, 1416, 1496, 1564, 1632, 1688, 1744, 1812, 1880, 1948, 2028, 2096, 2164, 2220, 2233, 2246, 2290, 2334], 156)) (by decide) hx rfl (by decide) rfl
theorem b_282_33_28 {Z : mZ} {l1 l2 l3 l5 l6 : mV} {x0 x4 : Int} {h : mH} (h0 : 0 ≤ w32 x4) (h1 : w32 x4 < (Z.1 : Int)) (hx : w32 (i_and (Z.2 (w32 x4).toNat).toInt 63) = 28) : m_run Z (282, 33, [(4, x0), l1, l2, l3, (0, x4), l5, l6], [], h) = m_run Z (282, 2136, [(4, x0), l1, l2, l3, (0, x4), l5, l6], [], h) := by
  refine g_aload_n (k := 0) (v := (4, x0)) (by decide +kernel : decode (m_byt 282) 33 = .ok (.aload_n 0, 1)) rfl (Or.inr (Or.inr rfl)) ?_
  refine g_iload (k := 4) (x := x4) (by decide +kernel : decode (m_byt 282) 34 = .ok (.iload 4, 2)) rfl ?_
  refine g_sald (by decide +kernel : decode (m_byt 282) 36 = .ok (.iaload, 1)) h0 h1 ?_
  refine g_base (by decide +kernel : decode (m_byt 282) 37 = .ok (.bipush 63, 2)) rfl rfl ?_
  show m_run Z (282, 39, [(4, x0), l1, l2, l3, (0, x4), l5, l6], [(0, 63), (0, (Z.2 (w32 x4).toNat).toInt)], h) = _
  refine g_base (by decide +kernel : decode (m_byt 282) 39 = .ok (.iand, 1)) rfl rfl ?_
  show m_run Z (282, 40, [(4, x0), l1, l2, l3, (0, x4), l5, l6], [(0, (i_and (Z.2 (w32 x4).toNat).toInt 63))], h) = _
  exact g_swk (k := 28) (t := 2136) (off := 2096) (by decide +kernel : decode (m_byt 282) 40 = .ok (.tableswitch 2348 0 34 #[156, 212, 292, 348, 416, 484, 564, 620, 676, 744, 812, 880, 948, 1016, 1029, 1133, 1220, 1324, 1416, 1496, 1564, 1632, 1688, 1744, 1812, 1880, 1948, 2028, 2096, 2164, 2220, 2233, 2246, 2290, 2334], 156)) (by decide) hx rfl (by decide) rfl
theorem b_282_33_29 {Z : mZ} {l1 l2 l3 l5 l6 : mV} {x0 x4 : Int} {h : mH} (h0 : 0 ≤ w32 x4) (h1 : w32 x4 < (Z.1 : Int)) (hx : w32 (i_and (Z.2 (w32 x4).toNat).toInt 63) = 29) : m_run Z (282, 33, [(4, x0), l1, l2, l3, (0, x4), l5, l6], [], h) = m_run Z (282, 2204, [(4, x0), l1, l2, l3, (0, x4), l5, l6], [], h) := by
  refine g_aload_n (k := 0) (v := (4, x0)) (by decide +kernel : decode (m_byt 282) 33 = .ok (.aload_n 0, 1)) rfl (Or.inr (Or.inr rfl)) ?_
  refine g_iload (k := 4) (x := x4) (by decide +kernel : decode (m_byt 282) 34 = .ok (.iload 4, 2)) rfl ?_
  refine g_sald (by decide +kernel : decode (m_byt 282) 36 = .ok (.iaload, 1)) h0 h1 ?_
  refine g_base (by decide +kernel : decode (m_byt 282) 37 = .ok (.bipush 63, 2)) rfl rfl ?_
  show m_run Z (282, 39, [(4, x0), l1, l2, l3, (0, x4), l5, l6], [(0, 63), (0, (Z.2 (w32 x4).toNat).toInt)], h) = _
  refine g_base (by decide +kernel : decode (m_byt 282) 39 = .ok (.iand, 1)) rfl rfl ?_
  show m_run Z (282, 40, [(4, x0), l1, l2, l3, (0, x4), l5, l6], [(0, (i_and (Z.2 (w32 x4).toNat).toInt 63))], h) = _
  exact g_swk (k := 29) (t := 2204) (off := 2164) (by decide +kernel : decode (m_byt 282) 40 = .ok (.tableswitch 2348 0 34 #[156, 212, 292, 348, 416, 484, 564, 620, 676, 744, 812, 880, 948, 1016, 1029, 1133, 1220, 1324, 1416, 1496, 1564, 1632, 1688, 1744, 1812, 1880, 1948, 2028, 2096, 2164, 2220, 2233, 2246, 2290, 2334], 156)) (by decide) hx rfl (by decide) rfl
theorem b_282_33_30 {Z : mZ} {l1 l2 l3 l5 l6 : mV} {x0 x4 : Int} {h : mH} (h0 : 0 ≤ w32 x4) (h1 : w32 x4 < (Z.1 : Int)) (hx : w32 (i_and (Z.2 (w32 x4).toNat).toInt 63) = 30) : m_run Z (282, 33, [(4, x0), l1, l2, l3, (0, x4), l5, l6], [], h) = m_run Z (282, 2260, [(4, x0), l1, l2, l3, (0, x4), l5, l6], [], h) := by
  refine g_aload_n (k := 0) (v := (4, x0)) (by decide +kernel : decode (m_byt 282) 33 = .ok (.aload_n 0, 1)) rfl (Or.inr (Or.inr rfl)) ?_
  refine g_iload (k := 4) (x := x4) (by decide +kernel : decode (m_byt 282) 34 = .ok (.iload 4, 2)) rfl ?_
  refine g_sald (by decide +kernel : decode (m_byt 282) 36 = .ok (.iaload, 1)) h0 h1 ?_
  refine g_base (by decide +kernel : decode (m_byt 282) 37 = .ok (.bipush 63, 2)) rfl rfl ?_
  show m_run Z (282, 39, [(4, x0), l1, l2, l3, (0, x4), l5, l6], [(0, 63), (0, (Z.2 (w32 x4).toNat).toInt)], h) = _
  refine g_base (by decide +kernel : decode (m_byt 282) 39 = .ok (.iand, 1)) rfl rfl ?_
  show m_run Z (282, 40, [(4, x0), l1, l2, l3, (0, x4), l5, l6], [(0, (i_and (Z.2 (w32 x4).toNat).toInt 63))], h) = _
  exact g_swk (k := 30) (t := 2260) (off := 2220) (by decide +kernel : decode (m_byt 282) 40 = .ok (.tableswitch 2348 0 34 #[156, 212, 292, 348, 416, 484, 564, 620, 676, 744, 812, 880, 948, 1016, 1029, 1133, 1220, 1324, 1416, 1496, 1564, 1632, 1688, 1744, 1812, 1880, 1948, 2028, 2096, 2164, 2220, 2233, 2246, 2290, 2334], 156)) (by decide) hx rfl (by decide) rfl
theorem b_282_33_31 {Z : mZ} {l1 l2 l3 l5 l6 : mV} {x0 x4 : Int} {h : mH} (h0 : 0 ≤ w32 x4) (h1 : w32 x4 < (Z.1 : Int)) (hx : w32 (i_and (Z.2 (w32 x4).toNat).toInt 63) = 31) : m_run Z (282, 33, [(4, x0), l1, l2, l3, (0, x4), l5, l6], [], h) = m_run Z (282, 2273, [(4, x0), l1, l2, l3, (0, x4), l5, l6], [], h) := by
  refine g_aload_n (k := 0) (v := (4, x0)) (by decide +kernel : decode (m_byt 282) 33 = .ok (.aload_n 0, 1)) rfl (Or.inr (Or.inr rfl)) ?_
  refine g_iload (k := 4) (x := x4) (by decide +kernel : decode (m_byt 282) 34 = .ok (.iload 4, 2)) rfl ?_
  refine g_sald (by decide +kernel : decode (m_byt 282) 36 = .ok (.iaload, 1)) h0 h1 ?_
  refine g_base (by decide +kernel : decode (m_byt 282) 37 = .ok (.bipush 63, 2)) rfl rfl ?_
  show m_run Z (282, 39, [(4, x0), l1, l2, l3, (0, x4), l5, l6], [(0, 63), (0, (Z.2 (w32 x4).toNat).toInt)], h) = _
  refine g_base (by decide +kernel : decode (m_byt 282) 39 = .ok (.iand, 1)) rfl rfl ?_
  show m_run Z (282, 40, [(4, x0), l1, l2, l3, (0, x4), l5, l6], [(0, (i_and (Z.2 (w32 x4).toNat).toInt 63))], h) = _
  exact g_swk (k := 31) (t := 2273) (off := 2233) (by decide +kernel : decode (m_byt 282) 40 = .ok (.tableswitch 2348 0 34 #[156, 212, 292, 348, 416, 484, 564, 620, 676, 744, 812, 880, 948, 1016, 1029, 1133, 1220, 1324, 1416, 1496, 1564, 1632, 1688, 1744, 1812, 1880, 1948, 2028, 2096, 2164, 2220, 2233, 2246, 2290, 2334], 156)) (by decide) hx rfl (by decide) rfl
theorem b_282_33_32 {Z : mZ} {l1 l2 l3 l5 l6 : mV} {x0 x4 : Int} {h : mH} (h0 : 0 ≤ w32 x4) (h1 : w32 x4 < (Z.1 : Int)) (hx : w32 (i_and (Z.2 (w32 x4).toNat).toInt 63) = 32) : m_run Z (282, 33, [(4, x0), l1, l2, l3, (0, x4), l5, l6], [], h) = m_run Z (282, 2286, [(4, x0), l1, l2, l3, (0, x4), l5, l6], [], h) := by
  refine g_aload_n (k := 0) (v := (4, x0)) (by decide +kernel : decode (m_byt 282) 33 = .ok (.aload_n 0, 1)) rfl (Or.inr (Or.inr rfl)) ?_
  refine g_iload (k := 4) (x := x4) (by decide +kernel : decode (m_byt 282) 34 = .ok (.iload 4, 2)) rfl ?_
  refine g_sald (by decide +kernel : decode (m_byt 282) 36 = .ok (.iaload, 1)) h0 h1 ?_
  refine g_base (by decide +kernel : decode (m_byt 282) 37 = .ok (.bipush 63, 2)) rfl rfl ?_
  show m_run Z (282, 39, [(4, x0), l1, l2, l3, (0, x4), l5, l6], [(0, 63), (0, (Z.2 (w32 x4).toNat).toInt)], h) = _
  refine g_base (by decide +kernel : decode (m_byt 282) 39 = .ok (.iand, 1)) rfl rfl ?_
  show m_run Z (282, 40, [(4, x0), l1, l2, l3, (0, x4), l5, l6], [(0, (i_and (Z.2 (w32 x4).toNat).toInt 63))], h) = _
  exact g_swk (k := 32) (t := 2286) (off := 2246) (by decide +kernel : decode (m_byt 282) 40 = .ok (.tableswitch 2348 0 34 #[156, 212, 292, 348, 416, 484, 564, 620, 676, 744, 812, 880, 948, 1016, 1029, 1133, 1220, 1324, 1416, 1496, 1564, 1632, 1688, 1744, 1812, 1880, 1948, 2028, 2096, 2164, 2220, 2233, 2246, 2290, 2334], 156)) (by decide) hx rfl (by decide) rfl
theorem b_282_33_33 {Z : mZ} {l1 l2 l3 l5 l6 : mV} {x0 x4 : Int} {h : mH} (h0 : 0 ≤ w32 x4) (h1 : w32 x4 < (Z.1 : Int)) (hx : w32 (i_and (Z.2 (w32 x4).toNat).toInt 63) = 33) : m_run Z (282, 33, [(4, x0), l1, l2, l3, (0, x4), l5, l6], [], h) = m_run Z (282, 2330, [(4, x0), l1, l2, l3, (0, x4), l5, l6], [], h) := by
  refine g_aload_n (k := 0) (v := (4, x0)) (by decide +kernel : decode (m_byt 282) 33 = .ok (.aload_n 0, 1)) rfl (Or.inr (Or.inr rfl)) ?_
  refine g_iload (k := 4) (x := x4) (by decide +kernel : decode (m_byt 282) 34 = .ok (.iload 4, 2)) rfl ?_
  refine g_sald (by decide +kernel : decode (m_byt 282) 36 = .ok (.iaload, 1)) h0 h1 ?_
  refine g_base (by decide +kernel : decode (m_byt 282) 37 = .ok (.bipush 63, 2)) rfl rfl ?_
  show m_run Z (282, 39, [(4, x0), l1, l2, l3, (0, x4), l5, l6], [(0, 63), (0, (Z.2 (w32 x4).toNat).toInt)], h) = _
  refine g_base (by decide +kernel : decode (m_byt 282) 39 = .ok (.iand, 1)) rfl rfl ?_
  show m_run Z (282, 40, [(4, x0), l1, l2, l3, (0, x4), l5, l6], [(0, (i_and (Z.2 (w32 x4).toNat).toInt 63))], h) = _
  exact g_swk (k := 33) (t := 2330) (off := 2290) (by decide +kernel : decode (m_byt 282) 40 = .ok (.tableswitch 2348 0 34 #[156, 212, 292, 348, 416, 484, 564, 620, 676, 744, 812, 880, 948, 1016, 1029, 1133, 1220, 1324, 1416, 1496, 1564, 1632, 1688, 1744, 1812, 1880, 1948, 2028, 2096, 2164, 2220, 2233, 2246, 2290, 2334], 156)) (by decide) hx rfl (by decide) rfl
theorem b_282_33_34 {Z : mZ} {l1 l2 l3 l5 l6 : mV} {x0 x4 : Int} {h : mH} (h0 : 0 ≤ w32 x4) (h1 : w32 x4 < (Z.1 : Int)) (hx : w32 (i_and (Z.2 (w32 x4).toNat).toInt 63) = 34) : m_run Z (282, 33, [(4, x0), l1, l2, l3, (0, x4), l5, l6], [], h) = m_run Z (282, 2374, [(4, x0), l1, l2, l3, (0, x4), l5, l6], [], h) := by
  refine g_aload_n (k := 0) (v := (4, x0)) (by decide +kernel : decode (m_byt 282) 33 = .ok (.aload_n 0, 1)) rfl (Or.inr (Or.inr rfl)) ?_
  refine g_iload (k := 4) (x := x4) (by decide +kernel : decode (m_byt 282) 34 = .ok (.iload 4, 2)) rfl ?_
  refine g_sald (by decide +kernel : decode (m_byt 282) 36 = .ok (.iaload, 1)) h0 h1 ?_
  refine g_base (by decide +kernel : decode (m_byt 282) 37 = .ok (.bipush 63, 2)) rfl rfl ?_
  show m_run Z (282, 39, [(4, x0), l1, l2, l3, (0, x4), l5, l6], [(0, 63), (0, (Z.2 (w32 x4).toNat).toInt)], h) = _
  refine g_base (by decide +kernel : decode (m_byt 282) 39 = .ok (.iand, 1)) rfl rfl ?_
  show m_run Z (282, 40, [(4, x0), l1, l2, l3, (0, x4), l5, l6], [(0, (i_and (Z.2 (w32 x4).toNat).toInt 63))], h) = _
  exact g_swk (k := 34) (t := 2374) (off := 2334) (by decide +kernel : decode (m_byt 282) 40 = .ok (.tableswitch 2348 0 34 #[156, 212, 292, 348, 416, 484, 564, 620, 676, 744, 812, 880, 948, 1016, 1029, 1133, 1220, 1324, 1416, 1496, 1564, 1632, 1688, 1744, 1812, 1880, 1948, 2028, 2096, 2164, 2220, 2233, 2246, 2290, 2334], 156)) (by decide) hx rfl (by decide) rfl
theorem b_282_33_d {Z : mZ} {l1 l2 l3 l5 l6 : mV} {x0 x4 : Int} {h : mH} (h0 : 0 ≤ w32 x4) (h1 : w32 x4 < (Z.1 : Int)) (hx : w32 (i_and (Z.2 (w32 x4).toNat).toInt 63) < 0 ∨ 34 < w32 (i_and (Z.2 (w32 x4).toNat).toInt 63)) : m_run Z (282, 33, [(4, x0), l1, l2, l3, (0, x4), l5, l6], [], h) = m_run Z (282, 2388, [(4, x0), l1, l2, l3, (0, x4), l5, l6], [], h) := by
  refine g_aload_n (k := 0) (v := (4, x0)) (by decide +kernel : decode (m_byt 282) 33 = .ok (.aload_n 0, 1)) rfl (Or.inr (Or.inr rfl)) ?_
  refine g_iload (k := 4) (x := x4) (by decide +kernel : decode (m_byt 282) 34 = .ok (.iload 4, 2)) rfl ?_
  refine g_sald (by decide +kernel : decode (m_byt 282) 36 = .ok (.iaload, 1)) h0 h1 ?_
  refine g_base (by decide +kernel : decode (m_byt 282) 37 = .ok (.bipush 63, 2)) rfl rfl ?_
  show m_run Z (282, 39, [(4, x0), l1, l2, l3, (0, x4), l5, l6], [(0, 63), (0, (Z.2 (w32 x4).toNat).toInt)], h) = _
  refine g_base (by decide +kernel : decode (m_byt 282) 39 = .ok (.iand, 1)) rfl rfl ?_
  show m_run Z (282, 40, [(4, x0), l1, l2, l3, (0, x4), l5, l6], [(0, (i_and (Z.2 (w32 x4).toNat).toInt 63))], h) = _
  exact g_swd (t := 2388) (by decide +kernel : decode (m_byt 282) 40 = .ok (.tableswitch 2348 0 34 #[156, 212, 292, 348, 416, 484, 564, 620, 676, 744, 812, 880, 948, 1016, 1029, 1133, 1220, 1324, 1416, 1496, 1564, 1632, 1688, 1744, 1812, 1880, 1948, 2028, 2096, 2164, 2220, 2233, 2246, 2290, 2334], 156)) hx (by decide) rfl
theorem b_282_196 {Z : mZ} {l2 l5 l6 : mV} {x0 x4 : Int} {r1 r3 : Nat} {h : mH} (h0 : 0 ≤ w32 (x4 + 1)) (h1 : w32 (x4 + 1) < (Z.1 : Int)) : m_run Z (282, 196, [(4, x0), (2, ((r1 : Nat) : Int)), l2, (2, ((r3 : Nat) : Int)), (0, x4), l5, l6], [], h) = (m_cl Z 251 [(2, ((r1 : Nat) : Int)), (0, (Z.2 (w32 (x4 + 1)).toNat).toInt), (2, ((r3 : Nat) : Int))] h).bind (m_aft (m_run Z) 282 204 [(4, x0), (2, ((r1 : Nat) : Int)), l2, (2, ((r3 : Nat) : Int)), (0, x4), l5, l6] []) := by
  refine g_aload_n (k := 1) (v := (2, ((r1 : Nat) : Int))) (by decide +kernel : decode (m_byt 282) 196 = .ok (.aload_n 1, 1)) rfl (Or.inl rfl) ?_
  refine g_aload_n (k := 0) (v := (4, x0)) (by decide +kernel : decode (m_byt 282) 197 = .ok (.aload_n 0, 1)) rfl (Or.inr (Or.inr rfl)) ?_
  refine g_iload (k := 4) (x := x4) (by decide +kernel : decode (m_byt 282) 198 = .ok (.iload 4, 2)) rfl ?_
  refine g_base (by decide +kernel : decode (m_byt 282) 200 = .ok (.iconst 1, 1)) rfl rfl ?_
  show m_run Z (282, 201, [(4, x0), (2, ((r1 : Nat) : Int)), l2, (2, ((r3 : Nat) : Int)), (0, x4), l5, l6], [(0, 1), (0, x4), (4, x0), (2, ((r1 : Nat) : Int))], h) = _
  refine g_base (by decide +kernel : decode (m_byt 282) 201 = .ok (.iadd, 1)) rfl rfl ?_
  show m_run Z (282, 202, [(4, x0), (2, ((r1 : Nat) : Int)), l2, (2, ((r3 : Nat) : Int)), (0, x4), l5, l6], [(0, (x4 + 1)), (4, x0), (2, ((r1 : Nat) : Int))], h) = _
  refine g_sald (by decide +kernel : decode (m_byt 282) 202 = .ok (.iaload, 1)) h0 h1 ?_
  refine g_aload_n (k := 3) (v := (2, ((r3 : Nat) : Int))) (by decide +kernel : decode (m_byt 282) 203 = .ok (.aload_n 3, 1)) rfl (Or.inl rfl) ?_
  exact g_inv (k := 0) (m' := 251) (np := 3) (as := [(2, ((r1 : Nat) : Int)), (0, (Z.2 (w32 (x4 + 1)).toNat).toInt), (2, ((r3 : Nat) : Int))]) (by decide +kernel : decode (m_byt 282) 204 = .ok (.invokestatic 119, 3)) (Or.inr (Or.inr ⟨rfl, rfl, by decide, by decide⟩)) (by decide +kernel) (by decide +kernel) (by decide +kernel) (Nat.le_of_ble_eq_true rfl) rfl (Or.inl rfl)
theorem b_282_207 {Z : mZ} {l1 l3 l5 l6 : mV} {s0 x4 x0 : Int} {r2 : Nat} {K : Nat → mK} {σ : Nat → Nat → Int} {n e s : Nat} (h0 : 0 ≤ w32 (x4 + 1)) (h1 : w32 (x4 + 1) < (Z.1 : Int)) (h2 : q_ob K n r2 7) : m_run Z (282, 207, [(4, x0), l1, (2, ((r2 : Nat) : Int)), l3, (0, x4), l5, l6], [(0, s0)], (K, σ, n, e, s)) = (m_cl Z 163 [(2, ((r2 : Nat) : Int)), (0, (Z.2 (w32 (x4 + 1)).toNat).toInt)] (K, σ, n, e, s)).bind (m_aft (m_run Z) 282 216 [(4, x0), l1, (2, ((r2 : Nat) : Int)), l3, (0, x4), (0, s0), l6] []) := by
  refine g_istore (k := 5) (by decide +kernel : decode (m_byt 282) 207 = .ok (.istore 5, 2)) (Nat.le_of_ble_eq_true rfl) ?_
  show m_run Z (282, 209, [(4, x0), l1, (2, ((r2 : Nat) : Int)), l3, (0, x4), (0, s0), l6], [], (K, σ, n, e, s)) = _
  refine g_aload_n (k := 2) (v := (2, ((r2 : Nat) : Int))) (by decide +kernel : decode (m_byt 282) 209 = .ok (.aload_n 2, 1)) rfl (Or.inl rfl) ?_
  refine g_aload_n (k := 0) (v := (4, x0)) (by decide +kernel : decode (m_byt 282) 210 = .ok (.aload_n 0, 1)) rfl (Or.inr (Or.inr rfl)) ?_
  refine g_iload (k := 4) (x := x4) (by decide +kernel : decode (m_byt 282) 211 = .ok (.iload 4, 2)) rfl ?_
  refine g_base (by decide +kernel : decode (m_byt 282) 213 = .ok (.iconst 1, 1)) rfl rfl ?_
  show m_run Z (282, 214, [(4, x0), l1, (2, ((r2 : Nat) : Int)), l3, (0, x4), (0, s0), l6], [(0, 1), (0, x4), (4, x0), (2, ((r2 : Nat) : Int))], (K, σ, n, e, s)) = _
  refine g_base (by decide +kernel : decode (m_byt 282) 214 = .ok (.iadd, 1)) rfl rfl ?_
  show m_run Z (282, 215, [(4, x0), l1, (2, ((r2 : Nat) : Int)), l3, (0, x4), (0, s0), l6], [(0, (x4 + 1)), (4, x0), (2, ((r2 : Nat) : Int))], (K, σ, n, e, s)) = _
  refine g_sald (by decide +kernel : decode (m_byt 282) 215 = .ok (.iaload, 1)) h0 h1 ?_
  exact g_inv (k := 1) (m' := 163) (np := 1) (as := [(2, ((r2 : Nat) : Int)), (0, (Z.2 (w32 (x4 + 1)).toNat).toInt)]) (by decide +kernel : decode (m_byt 282) 216 = .ok (.invokevirtual 124, 3)) (Or.inl ⟨rfl, rfl⟩) (by decide +kernel) (by decide +kernel) (by decide +kernel) (Nat.le_of_ble_eq_true rfl) rfl (Or.inr (g_rcv (by decide +kernel) h2))
theorem b_282_219 {Z : mZ} {l0 l1 l3 l4 l6 : mV} {s0 x5 : Int} {r2 : Nat} {K : Nat → mK} {σ : Nat → Nat → Int} {n e s : Nat} (h0 : q_ob K n r2 7) : m_run Z (282, 219, [l0, l1, (2, ((r2 : Nat) : Int)), l3, l4, (0, x5), l6], [(0, s0)], (K, σ, n, e, s)) = (m_cl Z 150 [(2, ((r2 : Nat) : Int))] (K, σ, n, e, s)).bind (m_aft (m_run Z) 282 222 [l0, l1, (2, ((r2 : Nat) : Int)), l3, l4, (0, x5), (0, s0)] []) := by
  refine g_istore (k := 6) (by decide +kernel : decode (m_byt 282) 219 = .ok (.istore 6, 2)) (Nat.le_of_ble_eq_true rfl) ?_
  show m_run Z (282, 221, [l0, l1, (2, ((r2 : Nat) : Int)), l3, l4, (0, x5), (0, s0)], [], (K, σ, n, e, s)) = _
  refine g_aload_n (k := 2) (v := (2, ((r2 : Nat) : Int))) (by decide +kernel : decode (m_byt 282) 221 = .ok (.aload_n 2, 1)) rfl (Or.inl rfl) ?_
  exact g_inv (k := 1) (m' := 150) (np := 0) (as := [(2, ((r2 : Nat) : Int))]) (by decide +kernel : decode (m_byt 282) 222 = .ok (.invokevirtual 125, 3)) (Or.inl ⟨rfl, rfl⟩) (by decide +kernel) (by decide +kernel) (by decide +kernel) (Nat.le_of_ble_eq_true rfl) rfl (Or.inr (g_rcv (by decide +kernel) h0))
theorem b_282_225 {Z : mZ} {l0 l1 l2 l3 l4 l6 : mV} {s0 x5 : Int} {h : mH} : m_run Z (282, 225, [l0, l1, l2, l3, l4, (0, x5), l6], [(0, s0)], h) = if w32 s0 = w32 x5 then m_run Z (282, 232, [l0, l1, l2, l3, l4, (0, x5), l6], [], h) else m_run Z (282, 230, [l0, l1, l2, l3, l4, (0, x5), l6], [], h) := by
  refine g_iload (k := 5) (x := x5) (by decide +kernel : decode (m_byt 282) 225 = .ok (.iload 5, 2)) rfl ?_
  exact g_brq (t := 232) (off := 5) (by decide +kernel : decode (m_byt 282) 227 = .ok (.if_icmp .eq 5, 3)) rfl rfl (by decide)
theorem b_282_230 {Z : mZ} {l0 l1 l2 l3 l4 l5 l6 : mV} {h : mH} : m_run Z (282, 230, [l0, l1, l2, l3, l4, l5, l6], [], h) = some (.inl (0, 0), h) := by
  refine g_base (by decide +kernel : decode (m_byt 282) 230 = .ok (.iconst 0, 1)) rfl rfl ?_
  show m_run Z (282, 231, [l0, l1, l2, l3, l4, l5, l6], [(0, 0)], h) = _
  exact g_zret (by decide +kernel : decode (m_byt 282) 231 = .ok (.ireturn, 1)) (by decide +kernel) (by decide)
theorem b_282_232 {Z : mZ} {l0 l1 l2 l3 l4 l6 : mV} {x5 : Int} {h : mH} : m_run Z (282, 232, [l0, l1, l2, l3, l4, (0, x5), l6], [], h) = if w32 x5 = 0 then m_run Z (282, 237, [l0, l1, l2, l3, l4, (0, x5), l6], [], h) else m_run Z (282, 249, [l0, l1, l2, l3, l4, (0, x5), l6], [], h) := by
  refine g_iload (k := 5) (x := x5) (by decide +kernel : decode (m_byt 282) 232 = .ok (.iload 5, 2)) rfl ?_
  exact g_brn (t := 249) (off := 15) (by decide +kernel : decode (m_byt 282) 234 = .ok (.ifCond .ne 15, 3)) rfl rfl (by decide)
theorem b_282_237 {Z : mZ} {l0 l1 l2 l4 l5 : mV} {x6 : Int} {r3 : Nat} {K : Nat → mK} {σ : Nat → Nat → Int} {n e s : Nat} (h0 : 0 ≤ w32 0) (h1 : w32 0 < (q_ln K r3 : Int)) (h2 : q_ak K n r3 3) : m_run Z (282, 237, [l0, l1, l2, (2, ((r3 : Nat) : Int)), l4, l5, (0, x6)], [], (K, σ, n, e, s)) = if w32 (l_cmp (σ r3 (w32 0).toNat) (w32 x6)) = 0 then m_run Z (282, 249, [l0, l1, l2, (2, ((r3 : Nat) : Int)), l4, l5, (0, x6)], [], (K, σ, n, e, s)) else m_run Z (282, 247, [l0, l1, l2, (2, ((r3 : Nat) : Int)), l4, l5, (0, x6)], [], (K, σ, n, e, s)) := by
  refine g_aload_n (k := 3) (v := (2, ((r3 : Nat) : Int))) (by decide +kernel : decode (m_byt 282) 237 = .ok (.aload_n 3, 1)) rfl (Or.inl rfl) ?_
  refine g_base (by decide +kernel : decode (m_byt 282) 238 = .ok (.iconst 0, 1)) rfl rfl ?_
  show m_run Z (282, 239, [l0, l1, l2, (2, ((r3 : Nat) : Int)), l4, l5, (0, x6)], [(0, 0), (2, ((r3 : Nat) : Int))], (K, σ, n, e, s)) = _
  refine g_lald (by decide +kernel : decode (m_byt 282) 239 = .ok (.laload, 1)) h2 h0 h1 ?_
  refine g_iload (k := 6) (x := x6) (by decide +kernel : decode (m_byt 282) 240 = .ok (.iload 6, 2)) rfl ?_
  refine g_base (by decide +kernel : decode (m_byt 282) 242 = .ok (.i2l, 1)) rfl rfl ?_
  show m_run Z (282, 243, [l0, l1, l2, (2, ((r3 : Nat) : Int)), l4, l5, (0, x6)], [(1, (w32 x6)), (1, (σ r3 (w32 0).toNat))], (K, σ, n, e, s)) = _
  refine g_base (by decide +kernel : decode (m_byt 282) 243 = .ok (.lcmp, 1)) rfl rfl ?_
  show m_run Z (282, 244, [l0, l1, l2, (2, ((r3 : Nat) : Int)), l4, l5, (0, x6)], [(0, (l_cmp (σ r3 (w32 0).toNat) (w32 x6)))], (K, σ, n, e, s)) = _
  exact g_brq (t := 249) (off := 5) (by decide +kernel : decode (m_byt 282) 244 = .ok (.ifCond .eq 5, 3)) rfl rfl (by decide)
theorem b_282_247 {Z : mZ} {l0 l1 l2 l3 l4 l5 l6 : mV} {h : mH} : m_run Z (282, 247, [l0, l1, l2, l3, l4, l5, l6], [], h) = some (.inl (0, 0), h) := by
  refine g_base (by decide +kernel : decode (m_byt 282) 247 = .ok (.iconst 0, 1)) rfl rfl ?_
  show m_run Z (282, 248, [l0, l1, l2, l3, l4, l5, l6], [(0, 0)], h) = _
  exact g_zret (by decide +kernel : decode (m_byt 282) 248 = .ok (.ireturn, 1)) (by decide +kernel) (by decide)
theorem b_282_249 {Z : mZ} {l0 l1 l2 l5 l6 : mV} {x4 : Int} {r3 : Nat} {h : mH} : m_run Z (282, 249, [l0, l1, l2, (2, ((r3 : Nat) : Int)), (0, x4), l5, l6], [], h) = m_run Z (282, 23, [l0, l1, l2, (2, ((r3 : Nat) : Int)), (0, x4 + 6), l5, l6], [], h) := by
  refine g_jmp (t := 2388) (by decide +kernel : decode (m_byt 282) 249 = .ok (.goto 2139, 3)) (by decide) ?_
  refine g_iinc (k := 4) (x := x4) (by decide +kernel : decode (m_byt 282) 2388 = .ok (.iinc 4 6, 3)) rfl (Nat.le_of_ble_eq_true rfl) ?_
  show m_run Z (282, 2391, [l0, l1, l2, (2, ((r3 : Nat) : Int)), (0, x4 + 6), l5, l6], [], h) = _
  refine g_jmp (t := 23) (by decide +kernel : decode (m_byt 282) 2391 = .ok (.goto (-2368), 3)) (by decide) ?_
  rfl
theorem b_282_252 {Z : mZ} {l2 l5 l6 : mV} {x0 x4 : Int} {r1 r3 : Nat} {h : mH} (h0 : 0 ≤ w32 (x4 + 1)) (h1 : w32 (x4 + 1) < (Z.1 : Int)) (h2 : 0 ≤ w32 (x4 + 2)) (h3 : w32 (x4 + 2) < (Z.1 : Int)) (h4 : 0 ≤ w32 (x4 + 3)) (h5 : w32 (x4 + 3) < (Z.1 : Int)) : m_run Z (282, 252, [(4, x0), (2, ((r1 : Nat) : Int)), l2, (2, ((r3 : Nat) : Int)), (0, x4), l5, l6], [], h) = (m_cl Z 252 [(2, ((r1 : Nat) : Int)), (0, (Z.2 (w32 (x4 + 1)).toNat).toInt), (0, (Z.2 (w32 (x4 + 2)).toNat).toInt), (0, (Z.2 (w32 (x4 + 3)).toNat).toInt), (2, ((r3 : Nat) : Int))] h).bind (m_aft (m_run Z) 282 272 [(4, x0), (2, ((r1 : Nat) : Int)), l2, (2, ((r3 : Nat) : Int)), (0, x4), l5, l6] []) := by
  refine g_aload_n (k := 1) (v := (2, ((r1 : Nat) : Int))) (by decide +kernel : decode (m_byt 282) 252 = .ok (.aload_n 1, 1)) rfl (Or.inl rfl) ?_
  refine g_aload_n (k := 0) (v := (4, x0)) (by decide +kernel : decode (m_byt 282) 253 = .ok (.aload_n 0, 1)) rfl (Or.inr (Or.inr rfl)) ?_
  refine g_iload (k := 4) (x := x4) (by decide +kernel : decode (m_byt 282) 254 = .ok (.iload 4, 2)) rfl ?_
  refine g_base (by decide +kernel : decode (m_byt 282) 256 = .ok (.iconst 1, 1)) rfl rfl ?_
  show m_run Z (282, 257, [(4, x0), (2, ((r1 : Nat) : Int)), l2, (2, ((r3 : Nat) : Int)), (0, x4), l5, l6], [(0, 1), (0, x4), (4, x0), (2, ((r1 : Nat) : Int))], h) = _
  refine g_base (by decide +kernel : decode (m_byt 282) 257 = .ok (.iadd, 1)) rfl rfl ?_
  show m_run Z (282, 258, [(4, x0), (2, ((r1 : Nat) : Int)), l2, (2, ((r3 : Nat) : Int)), (0, x4), l5, l6], [(0, (x4 + 1)), (4, x0), (2, ((r1 : Nat) : Int))], h) = _
  refine g_sald (by decide +kernel : decode (m_byt 282) 258 = .ok (.iaload, 1)) h0 h1 ?_
  refine g_aload_n (k := 0) (v := (4, x0)) (by decide +kernel : decode (m_byt 282) 259 = .ok (.aload_n 0, 1)) rfl (Or.inr (Or.inr rfl)) ?_
  refine g_iload (k := 4) (x := x4) (by decide +kernel : decode (m_byt 282) 260 = .ok (.iload 4, 2)) rfl ?_
  refine g_base (by decide +kernel : decode (m_byt 282) 262 = .ok (.iconst 2, 1)) rfl rfl ?_
  show m_run Z (282, 263, [(4, x0), (2, ((r1 : Nat) : Int)), l2, (2, ((r3 : Nat) : Int)), (0, x4), l5, l6], [(0, 2), (0, x4), (4, x0), (0, (Z.2 (w32 (x4 + 1)).toNat).toInt), (2, ((r1 : Nat) : Int))], h) = _
  refine g_base (by decide +kernel : decode (m_byt 282) 263 = .ok (.iadd, 1)) rfl rfl ?_
  show m_run Z (282, 264, [(4, x0), (2, ((r1 : Nat) : Int)), l2, (2, ((r3 : Nat) : Int)), (0, x4), l5, l6], [(0, (x4 + 2)), (4, x0), (0, (Z.2 (w32 (x4 + 1)).toNat).toInt), (2, ((r1 : Nat) : Int))], h) = _
  refine g_sald (by decide +kernel : decode (m_byt 282) 264 = .ok (.iaload, 1)) h2 h3 ?_
  refine g_aload_n (k := 0) (v := (4, x0)) (by decide +kernel : decode (m_byt 282) 265 = .ok (.aload_n 0, 1)) rfl (Or.inr (Or.inr rfl)) ?_
  refine g_iload (k := 4) (x := x4) (by decide +kernel : decode (m_byt 282) 266 = .ok (.iload 4, 2)) rfl ?_
  refine g_base (by decide +kernel : decode (m_byt 282) 268 = .ok (.iconst 3, 1)) rfl rfl ?_
  show m_run Z (282, 269, [(4, x0), (2, ((r1 : Nat) : Int)), l2, (2, ((r3 : Nat) : Int)), (0, x4), l5, l6], [(0, 3), (0, x4), (4, x0), (0, (Z.2 (w32 (x4 + 2)).toNat).toInt), (0, (Z.2 (w32 (x4 + 1)).toNat).toInt), (2, ((r1 : Nat) : Int))], h) = _
  refine g_base (by decide +kernel : decode (m_byt 282) 269 = .ok (.iadd, 1)) rfl rfl ?_
  show m_run Z (282, 270, [(4, x0), (2, ((r1 : Nat) : Int)), l2, (2, ((r3 : Nat) : Int)), (0, x4), l5, l6], [(0, (x4 + 3)), (4, x0), (0, (Z.2 (w32 (x4 + 2)).toNat).toInt), (0, (Z.2 (w32 (x4 + 1)).toNat).toInt), (2, ((r1 : Nat) : Int))], h) = _
  refine g_sald (by decide +kernel : decode (m_byt 282) 270 = .ok (.iaload, 1)) h4 h5 ?_
  refine g_aload_n (k := 3) (v := (2, ((r3 : Nat) : Int))) (by decide +kernel : decode (m_byt 282) 271 = .ok (.aload_n 3, 1)) rfl (Or.inl rfl) ?_
  exact g_inv (k := 0) (m' := 252) (np := 5) (as := [(2, ((r1 : Nat) : Int)), (0, (Z.2 (w32 (x4 + 1)).toNat).toInt), (0, (Z.2 (w32 (x4 + 2)).toNat).toInt), (0, (Z.2 (w32 (x4 + 3)).toNat).toInt), (2, ((r3 : Nat) : Int))]) (by decide +kernel : decode (m_byt 282) 272 = .ok (.invokestatic 128, 3)) (Or.inr (Or.inr ⟨rfl, rfl, by decide, by decide⟩)) (by decide +kernel) (by decide +kernel) (by decide +kernel) (Nat.le_of_ble_eq_true rfl) rfl (Or.inl rfl)
theorem b_282_275 {Z : mZ} {l1 l3 l5 l6 : mV} {s0 x4 x0 : Int} {r2 : Nat} {K : Nat → mK} {σ : Nat → Nat → Int} {n e s : Nat} (h0 : 0 ≤ w32 (x4 + 1)) (h1 : w32 (x4 + 1) < (Z.1 : Int)) (h2 : 0 ≤ w32 (x4 + 2)) (h3 : w32 (x4 + 2) < (Z.1 : Int)) (h4 : 0 ≤ w32 (x4 + 3)) (h5 : w32 (x4 + 3) < (Z.1 : Int)) (h6 : q_ob K n r2 7) : m_run Z (282, 275, [(4, x0), l1, (2, ((r2 : Nat) : Int)), l3, (0, x4), l5, l6], [(0, s0)], (K, σ, n, e, s)) = (m_cl Z 167 [(2, ((r2 : Nat) : Int)), (0, (Z.2 (w32 (x4 + 1)).toNat).toInt), (0, (Z.2 (w32 (x4 + 2)).toNat).toInt), (0, (Z.2 (w32 (x4 + 3)).toNat).toInt)] (K, σ, n, e, s)).bind (m_aft (m_run Z) 282 296 [(4, x0), l1, (2, ((r2 : Nat) : Int)), l3, (0, x4), (0, s0), l6] []) := by
  refine g_istore (k := 5) (by decide +kernel : decode (m_byt 282) 275 = .ok (.istore 5, 2)) (Nat.le_of_ble_eq_true rfl) ?_
  show m_run Z (282, 277, [(4, x0), l1, (2, ((r2 : Nat) : Int)), l3, (0, x4), (0, s0), l6], [], (K, σ, n, e, s)) = _
  refine g_aload_n (k := 2) (v := (2, ((r2 : Nat) : Int))) (by decide +kernel : decode (m_byt 282) 277 = .ok (.aload_n 2, 1)) rfl (Or.inl rfl) ?_
  refine g_aload_n (k := 0) (v := (4, x0)) (by decide +kernel : decode (m_byt 282) 278 = .ok (.aload_n 0, 1)) rfl (Or.inr (Or.inr rfl)) ?_
  refine g_iload (k := 4) (x := x4) (by decide +kernel : decode (m_byt 282) 279 = .ok (.iload 4, 2)) rfl ?_
  refine g_base (by decide +kernel : decode (m_byt 282) 281 = .ok (.iconst 1, 1)) rfl rfl ?_
  show m_run Z (282, 282, [(4, x0), l1, (2, ((r2 : Nat) : Int)), l3, (0, x4), (0, s0), l6], [(0, 1), (0, x4), (4, x0), (2, ((r2 : Nat) : Int))], (K, σ, n, e, s)) = _
  refine g_base (by decide +kernel : decode (m_byt 282) 282 = .ok (.iadd, 1)) rfl rfl ?_
  show m_run Z (282, 283, [(4, x0), l1, (2, ((r2 : Nat) : Int)), l3, (0, x4), (0, s0), l6], [(0, (x4 + 1)), (4, x0), (2, ((r2 : Nat) : Int))], (K, σ, n, e, s)) = _
  refine g_sald (by decide +kernel : decode (m_byt 282) 283 = .ok (.iaload, 1)) h0 h1 ?_
  refine g_aload_n (k := 0) (v := (4, x0)) (by decide +kernel : decode (m_byt 282) 284 = .ok (.aload_n 0, 1)) rfl (Or.inr (Or.inr rfl)) ?_
  refine g_iload (k := 4) (x := x4) (by decide +kernel : decode (m_byt 282) 285 = .ok (.iload 4, 2)) rfl ?_
  refine g_base (by decide +kernel : decode (m_byt 282) 287 = .ok (.iconst 2, 1)) rfl rfl ?_
  show m_run Z (282, 288, [(4, x0), l1, (2, ((r2 : Nat) : Int)), l3, (0, x4), (0, s0), l6], [(0, 2), (0, x4), (4, x0), (0, (Z.2 (w32 (x4 + 1)).toNat).toInt), (2, ((r2 : Nat) : Int))], (K, σ, n, e, s)) = _
  refine g_base (by decide +kernel : decode (m_byt 282) 288 = .ok (.iadd, 1)) rfl rfl ?_
  show m_run Z (282, 289, [(4, x0), l1, (2, ((r2 : Nat) : Int)), l3, (0, x4), (0, s0), l6], [(0, (x4 + 2)), (4, x0), (0, (Z.2 (w32 (x4 + 1)).toNat).toInt), (2, ((r2 : Nat) : Int))], (K, σ, n, e, s)) = _
  refine g_sald (by decide +kernel : decode (m_byt 282) 289 = .ok (.iaload, 1)) h2 h3 ?_
  refine g_aload_n (k := 0) (v := (4, x0)) (by decide +kernel : decode (m_byt 282) 290 = .ok (.aload_n 0, 1)) rfl (Or.inr (Or.inr rfl)) ?_
  refine g_iload (k := 4) (x := x4) (by decide +kernel : decode (m_byt 282) 291 = .ok (.iload 4, 2)) rfl ?_
  refine g_base (by decide +kernel : decode (m_byt 282) 293 = .ok (.iconst 3, 1)) rfl rfl ?_
  show m_run Z (282, 294, [(4, x0), l1, (2, ((r2 : Nat) : Int)), l3, (0, x4), (0, s0), l6], [(0, 3), (0, x4), (4, x0), (0, (Z.2 (w32 (x4 + 2)).toNat).toInt), (0, (Z.2 (w32 (x4 + 1)).toNat).toInt), (2, ((r2 : Nat) : Int))], (K, σ, n, e, s)) = _
  refine g_base (by decide +kernel : decode (m_byt 282) 294 = .ok (.iadd, 1)) rfl rfl ?_
  show m_run Z (282, 295, [(4, x0), l1, (2, ((r2 : Nat) : Int)), l3, (0, x4), (0, s0), l6], [(0, (x4 + 3)), (4, x0), (0, (Z.2 (w32 (x4 + 2)).toNat).toInt), (0, (Z.2 (w32 (x4 + 1)).toNat).toInt), (2, ((r2 : Nat) : Int))], (K, σ, n, e, s)) = _
  refine g_sald (by decide +kernel : decode (m_byt 282) 295 = .ok (.iaload, 1)) h4 h5 ?_
  exact g_inv (k := 1) (m' := 167) (np := 3) (as := [(2, ((r2 : Nat) : Int)), (0, (Z.2 (w32 (x4 + 1)).toNat).toInt), (0, (Z.2 (w32 (x4 + 2)).toNat).toInt), (0, (Z.2 (w32 (x4 + 3)).toNat).toInt)]) (by decide +kernel : decode (m_byt 282) 296 = .ok (.invokevirtual 131, 3)) (Or.inl ⟨rfl, rfl⟩) (by decide +kernel) (by decide +kernel) (by decide +kernel) (Nat.le_of_ble_eq_true rfl) rfl (Or.inr (g_rcv (by decide +kernel) h6))
theorem b_282_299 {Z : mZ} {l0 l1 l3 l4 l6 : mV} {s0 x5 : Int} {r2 : Nat} {K : Nat → mK} {σ : Nat → Nat → Int} {n e s : Nat} (h0 : q_ob K n r2 7) : m_run Z (282, 299, [l0, l1, (2, ((r2 : Nat) : Int)), l3, l4, (0, x5), l6], [(0, s0)], (K, σ, n, e, s)) = (m_cl Z 150 [(2, ((r2 : Nat) : Int))] (K, σ, n, e, s)).bind (m_aft (m_run Z) 282 302 [l0, l1, (2, ((r2 : Nat) : Int)), l3, l4, (0, x5), (0, s0)] []) := by
  refine g_istore (k := 6) (by decide +kernel : decode (m_byt 282) 299 = .ok (.istore 6, 2)) (Nat.le_of_ble_eq_true rfl) ?_
  show m_run Z (282, 301, [l0, l1, (2, ((r2 : Nat) : Int)), l3, l4, (0, x5), (0, s0)], [], (K, σ, n, e, s)) = _
  refine g_aload_n (k := 2) (v := (2, ((r2 : Nat) : Int))) (by decide +kernel : decode (m_byt 282) 301 = .ok (.aload_n 2, 1)) rfl (Or.inl rfl) ?_
  exact g_inv (k := 1) (m' := 150) (np := 0) (as := [(2, ((r2 : Nat) : Int))]) (by decide +kernel : decode (m_byt 282) 302 = .ok (.invokevirtual 125, 3)) (Or.inl ⟨rfl, rfl⟩) (by decide +kernel) (by decide +kernel) (by decide +kernel) (Nat.le_of_ble_eq_true rfl) rfl (Or.inr (g_rcv (by decide +kernel) h0))
theorem b_282_305 {Z : mZ} {l0 l1 l2 l3 l4 l6 : mV} {s0 x5 : Int} {h : mH} : m_run Z (282, 305, [l0, l1, l2, l3, l4, (0, x5), l6], [(0, s0)], h) = if w32 s0 = w32 x5 then m_run Z (282, 312, [l0, l1, l2, l3, l4, (0, x5), l6], [], h) else m_run Z (282, 310, [l0, l1, l2, l3, l4, (0, x5), l6], [], h) := by
  refine g_iload (k := 5) (x := x5) (by decide +kernel : decode (m_byt 282) 305 = .ok (.iload 5, 2)) rfl ?_
  exact g_brq (t := 312) (off := 5) (by decide +kernel : decode (m_byt 282) 307 = .ok (.if_icmp .eq 5, 3)) rfl rfl (by decide)
theorem b_282_310 {Z : mZ} {l0 l1 l2 l3 l4 l5 l6 : mV} {h : mH} : m_run Z (282, 310, [l0, l1, l2, l3, l4, l5, l6], [], h) = some (.inl (0, 0), h) := by
  refine g_base (by decide +kernel : decode (m_byt 282) 310 = .ok (.iconst 0, 1)) rfl rfl ?_
  show m_run Z (282, 311, [l0, l1, l2, l3, l4, l5, l6], [(0, 0)], h) = _
  exact g_zret (by decide +kernel : decode (m_byt 282) 311 = .ok (.ireturn, 1)) (by decide +kernel) (by decide)
theorem b_282_312 {Z : mZ} {l0 l1 l2 l3 l4 l6 : mV} {x5 : Int} {h : mH} : m_run Z (282, 312, [l0, l1, l2, l3, l4, (0, x5), l6], [], h) = if w32 x5 = 0 then m_run Z (282, 317, [l0, l1, l2, l3, l4, (0, x5), l6], [], h) else m_run Z (282, 329, [l0, l1, l2, l3, l4, (0, x5), l6], [], h) := by
  refine g_iload (k := 5) (x := x5) (by decide +kernel : decode (m_byt 282) 312 = .ok (.iload 5, 2)) rfl ?_
  exact g_brn (t := 329) (off := 15) (by decide +kernel : decode (m_byt 282) 314 = .ok (.ifCond .ne 15, 3)) rfl rfl (by decide)
theorem b_282_317 {Z : mZ} {l0 l1 l2 l4 l5 : mV} {x6 : Int} {r3 : Nat} {K : Nat → mK} {σ : Nat → Nat → Int} {n e s : Nat} (h0 : 0 ≤ w32 0) (h1 : w32 0 < (q_ln K r3 : Int)) (h2 : q_ak K n r3 3) : m_run Z (282, 317, [l0, l1, l2, (2, ((r3 : Nat) : Int)), l4, l5, (0, x6)], [], (K, σ, n, e, s)) = if w32 (l_cmp (σ r3 (w32 0).toNat) (w32 x6)) = 0 then m_run Z (282, 329, [l0, l1, l2, (2, ((r3 : Nat) : Int)), l4, l5, (0, x6)], [], (K, σ, n, e, s)) else m_run Z (282, 327, [l0, l1, l2, (2, ((r3 : Nat) : Int)), l4, l5, (0, x6)], [], (K, σ, n, e, s)) := by
  refine g_aload_n (k := 3) (v := (2, ((r3 : Nat) : Int))) (by decide +kernel : decode (m_byt 282) 317 = .ok (.aload_n 3, 1)) rfl (Or.inl rfl) ?_
  refine g_base (by decide +kernel : decode (m_byt 282) 318 = .ok (.iconst 0, 1)) rfl rfl ?_
  show m_run Z (282, 319, [l0, l1, l2, (2, ((r3 : Nat) : Int)), l4, l5, (0, x6)], [(0, 0), (2, ((r3 : Nat) : Int))], (K, σ, n, e, s)) = _
  refine g_lald (by decide +kernel : decode (m_byt 282) 319 = .ok (.laload, 1)) h2 h0 h1 ?_
  refine g_iload (k := 6) (x := x6) (by decide +kernel : decode (m_byt 282) 320 = .ok (.iload 6, 2)) rfl ?_
  refine g_base (by decide +kernel : decode (m_byt 282) 322 = .ok (.i2l, 1)) rfl rfl ?_
  show m_run Z (282, 323, [l0, l1, l2, (2, ((r3 : Nat) : Int)), l4, l5, (0, x6)], [(1, (w32 x6)), (1, (σ r3 (w32 0).toNat))], (K, σ, n, e, s)) = _
  refine g_base (by decide +kernel : decode (m_byt 282) 323 = .ok (.lcmp, 1)) rfl rfl ?_
  show m_run Z (282, 324, [l0, l1, l2, (2, ((r3 : Nat) : Int)), l4, l5, (0, x6)], [(0, (l_cmp (σ r3 (w32 0).toNat) (w32 x6)))], (K, σ, n, e, s)) = _
  exact g_brq (t := 329) (off := 5) (by decide +kernel : decode (m_byt 282) 324 = .ok (.ifCond .eq 5, 3)) rfl rfl (by decide)
theorem b_282_327 {Z : mZ} {l0 l1 l2 l3 l4 l5 l6 : mV} {h : mH} : m_run Z (282, 327, [l0, l1, l2, l3, l4, l5, l6], [], h) = some (.inl (0, 0), h) := by
  refine g_base (by decide +kernel : decode (m_byt 282) 327 = .ok (.iconst 0, 1)) rfl rfl ?_
  show m_run Z (282, 328, [l0, l1, l2, l3, l4, l5, l6], [(0, 0)], h) = _
  exact g_zret (by decide +kernel : decode (m_byt 282) 328 = .ok (.ireturn, 1)) (by decide +kernel) (by decide)
theorem b_282_329 {Z : mZ} {l0 l1 l2 l5 l6 : mV} {x4 : Int} {r3 : Nat} {h : mH} : m_run Z (282, 329, [l0, l1, l2, (2, ((r3 : Nat) : Int)), (0, x4), l5, l6], [], h) = m_run Z (282, 23, [l0, l1, l2, (2, ((r3 : Nat) : Int)), (0, x4 + 6), l5, l6], [], h) := by
  refine g_jmp (t := 2388) (by decide +kernel : decode (m_byt 282) 329 = .ok (.goto 2059, 3)) (by decide) ?_
  refine g_iinc (k := 4) (x := x4) (by decide +kernel : decode (m_byt 282) 2388 = .ok (.iinc 4 6, 3)) rfl (Nat.le_of_ble_eq_true rfl) ?_
  show m_run Z (282, 2391, [l0, l1, l2, (2, ((r3 : Nat) : Int)), (0, x4 + 6), l5, l6], [], h) = _
  refine g_jmp (t := 23) (by decide +kernel : decode (m_byt 282) 2391 = .ok (.goto (-2368), 3)) (by decide) ?_
  rfl
theorem b_282_332 {Z : mZ} {l2 l5 l6 : mV} {x0 x4 : Int} {r1 r3 : Nat} {h : mH} (h0 : 0 ≤ w32 (x4 + 1)) (h1 : w32 (x4 + 1) < (Z.1 : Int)) : m_run Z (282, 332, [(4, x0), (2, ((r1 : Nat) : Int)), l2, (2, ((r3 : Nat) : Int)), (0, x4), l5, l6], [], h) = (m_cl Z 253 [(2, ((r1 : Nat) : Int)), (0, (Z.2 (w32 (x4 + 1)).toNat).toInt), (2, ((r3 : Nat) : Int))] h).bind (m_aft (m_run Z) 282 340 [(4, x0), (2, ((r1 : Nat) : Int)), l2, (2, ((r3 : Nat) : Int)), (0, x4), l5, l6] []) := by
  refine g_aload_n (k := 1) (v := (2, ((r1 : Nat) : Int))) (by decide +kernel : decode (m_byt 282) 332 = .ok (.aload_n 1, 1)) rfl (Or.inl rfl) ?_
  refine g_aload_n (k := 0) (v := (4, x0)) (by decide +kernel : decode (m_byt 282) 333 = .ok (.aload_n 0, 1)) rfl (Or.inr (Or.inr rfl)) ?_
  refine g_iload (k := 4) (x := x4) (by decide +kernel : decode (m_byt 282) 334 = .ok (.iload 4, 2)) rfl ?_
  refine g_base (by decide +kernel : decode (m_byt 282) 336 = .ok (.iconst 1, 1)) rfl rfl ?_
  show m_run Z (282, 337, [(4, x0), (2, ((r1 : Nat) : Int)), l2, (2, ((r3 : Nat) : Int)), (0, x4), l5, l6], [(0, 1), (0, x4), (4, x0), (2, ((r1 : Nat) : Int))], h) = _
  refine g_base (by decide +kernel : decode (m_byt 282) 337 = .ok (.iadd, 1)) rfl rfl ?_
  show m_run Z (282, 338, [(4, x0), (2, ((r1 : Nat) : Int)), l2, (2, ((r3 : Nat) : Int)), (0, x4), l5, l6], [(0, (x4 + 1)), (4, x0), (2, ((r1 : Nat) : Int))], h) = _
  refine g_sald (by decide +kernel : decode (m_byt 282) 338 = .ok (.iaload, 1)) h0 h1 ?_
  refine g_aload_n (k := 3) (v := (2, ((r3 : Nat) : Int))) (by decide +kernel : decode (m_byt 282) 339 = .ok (.aload_n 3, 1)) rfl (Or.inl rfl) ?_
  exact g_inv (k := 0) (m' := 253) (np := 3) (as := [(2, ((r1 : Nat) : Int)), (0, (Z.2 (w32 (x4 + 1)).toNat).toInt), (2, ((r3 : Nat) : Int))]) (by decide +kernel : decode (m_byt 282) 340 = .ok (.invokestatic 132, 3)) (Or.inr (Or.inr ⟨rfl, rfl, by decide, by decide⟩)) (by decide +kernel) (by decide +kernel) (by decide +kernel) (Nat.le_of_ble_eq_true rfl) rfl (Or.inl rfl)
theorem b_282_343 {Z : mZ} {l1 l3 l5 l6 : mV} {s0 x4 x0 : Int} {r2 : Nat} {K : Nat → mK} {σ : Nat → Nat → Int} {n e s : Nat} (h0 : 0 ≤ w32 (x4 + 1)) (h1 : w32 (x4 + 1) < (Z.1 : Int)) (h2 : q_ob K n r2 7) : m_run Z (282, 343, [(4, x0), l1, (2, ((r2 : Nat) : Int)), l3, (0, x4), l5, l6], [(0, s0)], (K, σ, n, e, s)) = (m_cl Z 170 [(2, ((r2 : Nat) : Int)), (0, (Z.2 (w32 (x4 + 1)).toNat).toInt)] (K, σ, n, e, s)).bind (m_aft (m_run Z) 282 352 [(4, x0), l1, (2, ((r2 : Nat) : Int)), l3, (0, x4), (0, s0), l6] []) := by
  refine g_istore (k := 5) (by decide +kernel : decode (m_byt 282) 343 = .ok (.istore 5, 2)) (Nat.le_of_ble_eq_true rfl) ?_
  show m_run Z (282, 345, [(4, x0), l1, (2, ((r2 : Nat) : Int)), l3, (0, x4), (0, s0), l6], [], (K, σ, n, e, s)) = _
  refine g_aload_n (k := 2) (v := (2, ((r2 : Nat) : Int))) (by decide +kernel : decode (m_byt 282) 345 = .ok (.aload_n 2, 1)) rfl (Or.inl rfl) ?_
  refine g_aload_n (k := 0) (v := (4, x0)) (by decide +kernel : decode (m_byt 282) 346 = .ok (.aload_n 0, 1)) rfl (Or.inr (Or.inr rfl)) ?_
  refine g_iload (k := 4) (x := x4) (by decide +kernel : decode (m_byt 282) 347 = .ok (.iload 4, 2)) rfl ?_
  refine g_base (by decide +kernel : decode (m_byt 282) 349 = .ok (.iconst 1, 1)) rfl rfl ?_
  show m_run Z (282, 350, [(4, x0), l1, (2, ((r2 : Nat) : Int)), l3, (0, x4), (0, s0), l6], [(0, 1), (0, x4), (4, x0), (2, ((r2 : Nat) : Int))], (K, σ, n, e, s)) = _
  refine g_base (by decide +kernel : decode (m_byt 282) 350 = .ok (.iadd, 1)) rfl rfl ?_
  show m_run Z (282, 351, [(4, x0), l1, (2, ((r2 : Nat) : Int)), l3, (0, x4), (0, s0), l6], [(0, (x4 + 1)), (4, x0), (2, ((r2 : Nat) : Int))], (K, σ, n, e, s)) = _
  refine g_sald (by decide +kernel : decode (m_byt 282) 351 = .ok (.iaload, 1)) h0 h1 ?_
  exact g_inv (k := 1) (m' := 170) (np := 1) (as := [(2, ((r2 : Nat) : Int)), (0, (Z.2 (w32 (x4 + 1)).toNat).toInt)]) (by decide +kernel : decode (m_byt 282) 352 = .ok (.invokevirtual 134, 3)) (Or.inl ⟨rfl, rfl⟩) (by decide +kernel) (by decide +kernel) (by decide +kernel) (Nat.le_of_ble_eq_true rfl) rfl (Or.inr (g_rcv (by decide +kernel) h2))
theorem b_282_355 {Z : mZ} {l0 l1 l3 l4 l6 : mV} {s0 x5 : Int} {r2 : Nat} {K : Nat → mK} {σ : Nat → Nat → Int} {n e s : Nat} (h0 : q_ob K n r2 7) : m_run Z (282, 355, [l0, l1, (2, ((r2 : Nat) : Int)), l3, l4, (0, x5), l6], [(0, s0)], (K, σ, n, e, s)) = (m_cl Z 150 [(2, ((r2 : Nat) : Int))] (K, σ, n, e, s)).bind (m_aft (m_run Z) 282 358 [l0, l1, (2, ((r2 : Nat) : Int)), l3, l4, (0, x5), (0, s0)] []) := by
  refine g_istore (k := 6) (by decide +kernel : decode (m_byt 282) 355 = .ok (.istore 6, 2)) (Nat.le_of_ble_eq_true rfl) ?_
  show m_run Z (282, 357, [l0, l1, (2, ((r2 : Nat) : Int)), l3, l4, (0, x5), (0, s0)], [], (K, σ, n, e, s)) = _
  refine g_aload_n (k := 2) (v := (2, ((r2 : Nat) : Int))) (by decide +kernel : decode (m_byt 282) 357 = .ok (.aload_n 2, 1)) rfl (Or.inl rfl) ?_
  exact g_inv (k := 1) (m' := 150) (np := 0) (as := [(2, ((r2 : Nat) : Int))]) (by decide +kernel : decode (m_byt 282) 358 = .ok (.invokevirtual 125, 3)) (Or.inl ⟨rfl, rfl⟩) (by decide +kernel) (by decide +kernel) (by decide +kernel) (Nat.le_of_ble_eq_true rfl) rfl (Or.inr (g_rcv (by decide +kernel) h0))
theorem b_282_361 {Z : mZ} {l0 l1 l2 l3 l4 l6 : mV} {s0 x5 : Int} {h : mH} : m_run Z (282, 361, [l0, l1, l2, l3, l4, (0, x5), l6], [(0, s0)], h) = if w32 s0 = w32 x5 then m_run Z (282, 368, [l0, l1, l2, l3, l4, (0, x5), l6], [], h) else m_run Z (282, 366, [l0, l1, l2, l3, l4, (0, x5), l6], [], h) := by
  refine g_iload (k := 5) (x := x5) (by decide +kernel : decode (m_byt 282) 361 = .ok (.iload 5, 2)) rfl ?_
  exact g_brq (t := 368) (off := 5) (by decide +kernel : decode (m_byt 282) 363 = .ok (.if_icmp .eq 5, 3)) rfl rfl (by decide)
theorem b_282_366 {Z : mZ} {l0 l1 l2 l3 l4 l5 l6 : mV} {h : mH} : m_run Z (282, 366, [l0, l1, l2, l3, l4, l5, l6], [], h) = some (.inl (0, 0), h) := by
  refine g_base (by decide +kernel : decode (m_byt 282) 366 = .ok (.iconst 0, 1)) rfl rfl ?_
  show m_run Z (282, 367, [l0, l1, l2, l3, l4, l5, l6], [(0, 0)], h) = _
  exact g_zret (by decide +kernel : decode (m_byt 282) 367 = .ok (.ireturn, 1)) (by decide +kernel) (by decide)
theorem b_282_368 {Z : mZ} {l0 l1 l2 l3 l4 l6 : mV} {x5 : Int} {h : mH} : m_run Z (282, 368, [l0, l1, l2, l3, l4, (0, x5), l6], [], h) = if w32 x5 = 0 then m_run Z (282, 373, [l0, l1, l2, l3, l4, (0, x5), l6], [], h) else m_run Z (282, 385, [l0, l1, l2, l3, l4, (0, x5), l6], [], h) := by
  refine g_iload (k := 5) (x := x5) (by decide +kernel : decode (m_byt 282) 368 = .ok (.iload 5, 2)) rfl ?_
  exact g_brn (t := 385) (off := 15) (by decide +kernel : decode (m_byt 282) 370 = .ok (.ifCond .ne 15, 3)) rfl rfl (by decide)
theorem b_282_373 {Z : mZ} {l0 l1 l2 l4 l5 : mV} {x6 : Int} {r3 : Nat} {K : Nat → mK} {σ : Nat → Nat → Int} {n e s : Nat} (h0 : 0 ≤ w32 0) (h1 : w32 0 < (q_ln K r3 : Int)) (h2 : q_ak K n r3 3) : m_run Z (282, 373, [l0, l1, l2, (2, ((r3 : Nat) : Int)), l4, l5, (0, x6)], [], (K, σ, n, e, s)) = if w32 (l_cmp (σ r3 (w32 0).toNat) (w32 x6)) = 0 then m_run Z (282, 385, [l0, l1, l2, (2, ((r3 : Nat) : Int)), l4, l5, (0, x6)], [], (K, σ, n, e, s)) else m_run Z (282, 383, [l0, l1, l2, (2, ((r3 : Nat) : Int)), l4, l5, (0, x6)], [], (K, σ, n, e, s)) := by
  refine g_aload_n (k := 3) (v := (2, ((r3 : Nat) : Int))) (by decide +kernel : decode (m_byt 282) 373 = .ok (.aload_n 3, 1)) rfl (Or.inl rfl) ?_
  refine g_base (by decide +kernel : decode (m_byt 282) 374 = .ok (.iconst 0, 1)) rfl rfl ?_
  show m_run Z (282, 375, [l0, l1, l2, (2, ((r3 : Nat) : Int)), l4, l5, (0, x6)], [(0, 0), (2, ((r3 : Nat) : Int))], (K, σ, n, e, s)) = _
  refine g_lald (by decide +kernel : decode (m_byt 282) 375 = .ok (.laload, 1)) h2 h0 h1 ?_
  refine g_iload (k := 6) (x := x6) (by decide +kernel : decode (m_byt 282) 376 = .ok (.iload 6, 2)) rfl ?_
  refine g_base (by decide +kernel : decode (m_byt 282) 378 = .ok (.i2l, 1)) rfl rfl ?_
  show m_run Z (282, 379, [l0, l1, l2, (2, ((r3 : Nat) : Int)), l4, l5, (0, x6)], [(1, (w32 x6)), (1, (σ r3 (w32 0).toNat))], (K, σ, n, e, s)) = _
  refine g_base (by decide +kernel : decode (m_byt 282) 379 = .ok (.lcmp, 1)) rfl rfl ?_
  show m_run Z (282, 380, [l0, l1, l2, (2, ((r3 : Nat) : Int)), l4, l5, (0, x6)], [(0, (l_cmp (σ r3 (w32 0).toNat) (w32 x6)))], (K, σ, n, e, s)) = _
  exact g_brq (t := 385) (off := 5) (by decide +kernel : decode (m_byt 282) 380 = .ok (.ifCond .eq 5, 3)) rfl rfl (by decide)
theorem b_282_383 {Z : mZ} {l0 l1 l2 l3 l4 l5 l6 : mV} {h : mH} : m_run Z (282, 383, [l0, l1, l2, l3, l4, l5, l6], [], h) = some (.inl (0, 0), h) := by
  refine g_base (by decide +kernel : decode (m_byt 282) 383 = .ok (.iconst 0, 1)) rfl rfl ?_
  show m_run Z (282, 384, [l0, l1, l2, l3, l4, l5, l6], [(0, 0)], h) = _
  exact g_zret (by decide +kernel : decode (m_byt 282) 384 = .ok (.ireturn, 1)) (by decide +kernel) (by decide)
theorem b_282_385 {Z : mZ} {l0 l1 l2 l5 l6 : mV} {x4 : Int} {r3 : Nat} {h : mH} : m_run Z (282, 385, [l0, l1, l2, (2, ((r3 : Nat) : Int)), (0, x4), l5, l6], [], h) = m_run Z (282, 23, [l0, l1, l2, (2, ((r3 : Nat) : Int)), (0, x4 + 6), l5, l6], [], h) := by
  refine g_jmp (t := 2388) (by decide +kernel : decode (m_byt 282) 385 = .ok (.goto 2003, 3)) (by decide) ?_
  refine g_iinc (k := 4) (x := x4) (by decide +kernel : decode (m_byt 282) 2388 = .ok (.iinc 4 6, 3)) rfl (Nat.le_of_ble_eq_true rfl) ?_
  show m_run Z (282, 2391, [l0, l1, l2, (2, ((r3 : Nat) : Int)), (0, x4 + 6), l5, l6], [], h) = _
  refine g_jmp (t := 23) (by decide +kernel : decode (m_byt 282) 2391 = .ok (.goto (-2368), 3)) (by decide) ?_
  rfl
theorem b_282_388 {Z : mZ} {l2 l5 l6 : mV} {x0 x4 : Int} {r1 r3 : Nat} {h : mH} (h0 : 0 ≤ w32 (x4 + 1)) (h1 : w32 (x4 + 1) < (Z.1 : Int)) (h2 : 0 ≤ w32 (x4 + 2)) (h3 : w32 (x4 + 2) < (Z.1 : Int)) : m_run Z (282, 388, [(4, x0), (2, ((r1 : Nat) : Int)), l2, (2, ((r3 : Nat) : Int)), (0, x4), l5, l6], [], h) = (m_cl Z 254 [(2, ((r1 : Nat) : Int)), (0, (Z.2 (w32 (x4 + 1)).toNat).toInt), (0, (Z.2 (w32 (x4 + 2)).toNat).toInt), (2, ((r3 : Nat) : Int))] h).bind (m_aft (m_run Z) 282 402 [(4, x0), (2, ((r1 : Nat) : Int)), l2, (2, ((r3 : Nat) : Int)), (0, x4), l5, l6] []) := by
  refine g_aload_n (k := 1) (v := (2, ((r1 : Nat) : Int))) (by decide +kernel : decode (m_byt 282) 388 = .ok (.aload_n 1, 1)) rfl (Or.inl rfl) ?_
  refine g_aload_n (k := 0) (v := (4, x0)) (by decide +kernel : decode (m_byt 282) 389 = .ok (.aload_n 0, 1)) rfl (Or.inr (Or.inr rfl)) ?_
  refine g_iload (k := 4) (x := x4) (by decide +kernel : decode (m_byt 282) 390 = .ok (.iload 4, 2)) rfl ?_
  refine g_base (by decide +kernel : decode (m_byt 282) 392 = .ok (.iconst 1, 1)) rfl rfl ?_
  show m_run Z (282, 393, [(4, x0), (2, ((r1 : Nat) : Int)), l2, (2, ((r3 : Nat) : Int)), (0, x4), l5, l6], [(0, 1), (0, x4), (4, x0), (2, ((r1 : Nat) : Int))], h) = _
  refine g_base (by decide +kernel : decode (m_byt 282) 393 = .ok (.iadd, 1)) rfl rfl ?_
  show m_run Z (282, 394, [(4, x0), (2, ((r1 : Nat) : Int)), l2, (2, ((r3 : Nat) : Int)), (0, x4), l5, l6], [(0, (x4 + 1)), (4, x0), (2, ((r1 : Nat) : Int))], h) = _
  refine g_sald (by decide +kernel : decode (m_byt 282) 394 = .ok (.iaload, 1)) h0 h1 ?_
  refine g_aload_n (k := 0) (v := (4, x0)) (by decide +kernel : decode (m_byt 282) 395 = .ok (.aload_n 0, 1)) rfl (Or.inr (Or.inr rfl)) ?_
  refine g_iload (k := 4) (x := x4) (by decide +kernel : decode (m_byt 282) 396 = .ok (.iload 4, 2)) rfl ?_
  refine g_base (by decide +kernel : decode (m_byt 282) 398 = .ok (.iconst 2, 1)) rfl rfl ?_
  show m_run Z (282, 399, [(4, x0), (2, ((r1 : Nat) : Int)), l2, (2, ((r3 : Nat) : Int)), (0, x4), l5, l6], [(0, 2), (0, x4), (4, x0), (0, (Z.2 (w32 (x4 + 1)).toNat).toInt), (2, ((r1 : Nat) : Int))], h) = _
  refine g_base (by decide +kernel : decode (m_byt 282) 399 = .ok (.iadd, 1)) rfl rfl ?_
  show m_run Z (282, 400, [(4, x0), (2, ((r1 : Nat) : Int)), l2, (2, ((r3 : Nat) : Int)), (0, x4), l5, l6], [(0, (x4 + 2)), (4, x0), (0, (Z.2 (w32 (x4 + 1)).toNat).toInt), (2, ((r1 : Nat) : Int))], h) = _
  refine g_sald (by decide +kernel : decode (m_byt 282) 400 = .ok (.iaload, 1)) h2 h3 ?_
  refine g_aload_n (k := 3) (v := (2, ((r3 : Nat) : Int))) (by decide +kernel : decode (m_byt 282) 401 = .ok (.aload_n 3, 1)) rfl (Or.inl rfl) ?_
  exact g_inv (k := 0) (m' := 254) (np := 4) (as := [(2, ((r1 : Nat) : Int)), (0, (Z.2 (w32 (x4 + 1)).toNat).toInt), (0, (Z.2 (w32 (x4 + 2)).toNat).toInt), (2, ((r3 : Nat) : Int))]) (by decide +kernel : decode (m_byt 282) 402 = .ok (.invokestatic 135, 3)) (Or.inr (Or.inr ⟨rfl, rfl, by decide, by decide⟩)) (by decide +kernel) (by decide +kernel) (by decide +kernel) (Nat.le_of_ble_eq_true rfl) rfl (Or.inl rfl)
theorem b_282_405 {Z : mZ} {l1 l3 l5 l6 : mV} {s0 x4 x0 : Int} {r2 : Nat} {K : Nat → mK} {σ : Nat → Nat → Int} {n e s : Nat} (h0 : 0 ≤ w32 (x4 + 1)) (h1 : w32 (x4 + 1) < (Z.1 : Int)) (h2 : 0 ≤ w32 (x4 + 2)) (h3 : w32 (x4 + 2) < (Z.1 : Int)) (h4 : q_ob K n r2 7) : m_run Z (282, 405, [(4, x0), l1, (2, ((r2 : Nat) : Int)), l3, (0, x4), l5, l6], [(0, s0)], (K, σ, n, e, s)) = (m_cl Z 172 [(2, ((r2 : Nat) : Int)), (0, (Z.2 (w32 (x4 + 1)).toNat).toInt), (0, (Z.2 (w32 (x4 + 2)).toNat).toInt)] (K, σ, n, e, s)).bind (m_aft (m_run Z) 282 420 [(4, x0), l1, (2, ((r2 : Nat) : Int)), l3, (0, x4), (0, s0), l6] []) := by
  refine g_istore (k := 5) (by decide +kernel : decode (m_byt 282) 405 = .ok (.istore 5, 2)) (Nat.le_of_ble_eq_true rfl) ?_
  show m_run Z (282, 407, [(4, x0), l1, (2, ((r2 : Nat) : Int)), l3, (0, x4), (0, s0), l6], [], (K, σ, n, e, s)) = _
  refine g_aload_n (k := 2) (v := (2, ((r2 : Nat) : Int))) (by decide +kernel : decode (m_byt 282) 407 = .ok (.aload_n 2, 1)) rfl (Or.inl rfl) ?_
  refine g_aload_n (k := 0) (v := (4, x0)) (by decide +kernel : decode (m_byt 282) 408 = .ok (.aload_n 0, 1)) rfl (Or.inr (Or.inr rfl)) ?_
  refine g_iload (k := 4) (x := x4) (by decide +kernel : decode (m_byt 282) 409 = .ok (.iload 4, 2)) rfl ?_
  refine g_base (by decide +kernel : decode (m_byt 282) 411 = .ok (.iconst 1, 1)) rfl rfl ?_
  show m_run Z (282, 412, [(4, x0), l1, (2, ((r2 : Nat) : Int)), l3, (0, x4), (0, s0), l6], [(0, 1), (0, x4), (4, x0), (2, ((r2 : Nat) : Int))], (K, σ, n, e, s)) = _
  refine g_base (by decide +kernel : decode (m_byt 282) 412 = .ok (.iadd, 1)) rfl rfl ?_
  show m_run Z (282, 413, [(4, x0), l1, (2, ((r2 : Nat) : Int)), l3, (0, x4), (0, s0), l6], [(0, (x4 + 1)), (4, x0), (2, ((r2 : Nat) : Int))], (K, σ, n, e, s)) = _
  refine g_sald (by decide +kernel : decode (m_byt 282) 413 = .ok (.iaload, 1)) h0 h1 ?_
  refine g_aload_n (k := 0) (v := (4, x0)) (by decide +kernel : decode (m_byt 282) 414 = .ok (.aload_n 0, 1)) rfl (Or.inr (Or.inr rfl)) ?_
  refine g_iload (k := 4) (x := x4) (by decide +kernel : decode (m_byt 282) 415 = .ok (.iload 4, 2)) rfl ?_
  refine g_base (by decide +kernel : decode (m_byt 282) 417 = .ok (.iconst 2, 1)) rfl rfl ?_
  show m_run Z (282, 418, [(4, x0), l1, (2, ((r2 : Nat) : Int)), l3, (0, x4), (0, s0), l6], [(0, 2), (0, x4), (4, x0), (0, (Z.2 (w32 (x4 + 1)).toNat).toInt), (2, ((r2 : Nat) : Int))], (K, σ, n, e, s)) = _
  refine g_base (by decide +kernel : decode (m_byt 282) 418 = .ok (.iadd, 1)) rfl rfl ?_
  show m_run Z (282, 419, [(4, x0), l1, (2, ((r2 : Nat) : Int)), l3, (0, x4), (0, s0), l6], [(0, (x4 + 2)), (4, x0), (0, (Z.2 (w32 (x4 + 1)).toNat).toInt), (2, ((r2 : Nat) : Int))], (K, σ, n, e, s)) = _
  refine g_sald (by decide +kernel : decode (m_byt 282) 419 = .ok (.iaload, 1)) h2 h3 ?_
  exact g_inv (k := 1) (m' := 172) (np := 2) (as := [(2, ((r2 : Nat) : Int)), (0, (Z.2 (w32 (x4 + 1)).toNat).toInt), (0, (Z.2 (w32 (x4 + 2)).toNat).toInt)]) (by decide +kernel : decode (m_byt 282) 420 = .ok (.invokevirtual 138, 3)) (Or.inl ⟨rfl, rfl⟩) (by decide +kernel) (by decide +kernel) (by decide +kernel) (Nat.le_of_ble_eq_true rfl) rfl (Or.inr (g_rcv (by decide +kernel) h4))
theorem b_282_423 {Z : mZ} {l0 l1 l3 l4 l6 : mV} {s0 x5 : Int} {r2 : Nat} {K : Nat → mK} {σ : Nat → Nat → Int} {n e s : Nat} (h0 : q_ob K n r2 7) : m_run Z (282, 423, [l0, l1, (2, ((r2 : Nat) : Int)), l3, l4, (0, x5), l6], [(0, s0)], (K, σ, n, e, s)) = (m_cl Z 150 [(2, ((r2 : Nat) : Int))] (K, σ, n, e, s)).bind (m_aft (m_run Z) 282 426 [l0, l1, (2, ((r2 : Nat) : Int)), l3, l4, (0, x5), (0, s0)] []) := by
  refine g_istore (k := 6) (by decide +kernel : decode (m_byt 282) 423 = .ok (.istore 6, 2)) (Nat.le_of_ble_eq_true rfl) ?_
  show m_run Z (282, 425, [l0, l1, (2, ((r2 : Nat) : Int)), l3, l4, (0, x5), (0, s0)], [], (K, σ, n, e, s)) = _
  refine g_aload_n (k := 2) (v := (2, ((r2 : Nat) : Int))) (by decide +kernel : decode (m_byt 282) 425 = .ok (.aload_n 2, 1)) rfl (Or.inl rfl) ?_
  exact g_inv (k := 1) (m' := 150) (np := 0) (as := [(2, ((r2 : Nat) : Int))]) (by decide +kernel : decode (m_byt 282) 426 = .ok (.invokevirtual 125, 3)) (Or.inl ⟨rfl, rfl⟩) (by decide +kernel) (by decide +kernel) (by decide +kernel) (Nat.le_of_ble_eq_true rfl) rfl (Or.inr (g_rcv (by decide +kernel) h0))
theorem b_282_429 {Z : mZ} {l0 l1 l2 l3 l4 l6 : mV} {s0 x5 : Int} {h : mH} : m_run Z (282, 429, [l0, l1, l2, l3, l4, (0, x5), l6], [(0, s0)], h) = if w32 s0 = w32 x5 then m_run Z (282, 436, [l0, l1, l2, l3, l4, (0, x5), l6], [], h) else m_run Z (282, 434, [l0, l1, l2, l3, l4, (0, x5), l6], [], h) := by
  refine g_iload (k := 5) (x := x5) (by decide +kernel : decode (m_byt 282) 429 = .ok (.iload 5, 2)) rfl ?_
  exact g_brq (t := 436) (off := 5) (by decide +kernel : decode (m_byt 282) 431 = .ok (.if_icmp .eq 5, 3)) rfl rfl (by decide)
theorem b_282_434 {Z : mZ} {l0 l1 l2 l3 l4 l5 l6 : mV} {h : mH} : m_run Z (282, 434, [l0, l1, l2, l3, l4, l5, l6], [], h) = some (.inl (0, 0), h) := by
  refine g_base (by decide +kernel : decode (m_byt 282) 434 = .ok (.iconst 0, 1)) rfl rfl ?_
  show m_run Z (282, 435, [l0, l1, l2, l3, l4, l5, l6], [(0, 0)], h) = _
  exact g_zret (by decide +kernel : decode (m_byt 282) 435 = .ok (.ireturn, 1)) (by decide +kernel) (by decide)
theorem b_282_436 {Z : mZ} {l0 l1 l2 l3 l4 l6 : mV} {x5 : Int} {h : mH} : m_run Z (282, 436, [l0, l1, l2, l3, l4, (0, x5), l6], [], h) = if w32 x5 = 0 then m_run Z (282, 441, [l0, l1, l2, l3, l4, (0, x5), l6], [], h) else m_run Z (282, 453, [l0, l1, l2, l3, l4, (0, x5), l6], [], h) := by
  refine g_iload (k := 5) (x := x5) (by decide +kernel : decode (m_byt 282) 436 = .ok (.iload 5, 2)) rfl ?_
  exact g_brn (t := 453) (off := 15) (by decide +kernel : decode (m_byt 282) 438 = .ok (.ifCond .ne 15, 3)) rfl rfl (by decide)
theorem b_282_441 {Z : mZ} {l0 l1 l2 l4 l5 : mV} {x6 : Int} {r3 : Nat} {K : Nat → mK} {σ : Nat → Nat → Int} {n e s : Nat} (h0 : 0 ≤ w32 0) (h1 : w32 0 < (q_ln K r3 : Int)) (h2 : q_ak K n r3 3) : m_run Z (282, 441, [l0, l1, l2, (2, ((r3 : Nat) : Int)), l4, l5, (0, x6)], [], (K, σ, n, e, s)) = if w32 (l_cmp (σ r3 (w32 0).toNat) (w32 x6)) = 0 then m_run Z (282, 453, [l0, l1, l2, (2, ((r3 : Nat) : Int)), l4, l5, (0, x6)], [], (K, σ, n, e, s)) else m_run Z (282, 451, [l0, l1, l2, (2, ((r3 : Nat) : Int)), l4, l5, (0, x6)], [], (K, σ, n, e, s)) := by
  refine g_aload_n (k := 3) (v := (2, ((r3 : Nat) : Int))) (by decide +kernel : decode (m_byt 282) 441 = .ok (.aload_n 3, 1)) rfl (Or.inl rfl) ?_
  refine g_base (by decide +kernel : decode (m_byt 282) 442 = .ok (.iconst 0, 1)) rfl rfl ?_
  show m_run Z (282, 443, [l0, l1, l2, (2, ((r3 : Nat) : Int)), l4, l5, (0, x6)], [(0, 0), (2, ((r3 : Nat) : Int))], (K, σ, n, e, s)) = _
  refine g_lald (by decide +kernel : decode (m_byt 282) 443 = .ok (.laload, 1)) h2 h0 h1 ?_
  refine g_iload (k := 6) (x := x6) (by decide +kernel : decode (m_byt 282) 444 = .ok (.iload 6, 2)) rfl ?_
  refine g_base (by decide +kernel : decode (m_byt 282) 446 = .ok (.i2l, 1)) rfl rfl ?_
  show m_run Z (282, 447, [l0, l1, l2, (2, ((r3 : Nat) : Int)), l4, l5, (0, x6)], [(1, (w32 x6)), (1, (σ r3 (w32 0).toNat))], (K, σ, n, e, s)) = _
  refine g_base (by decide +kernel : decode (m_byt 282) 447 = .ok (.lcmp, 1)) rfl rfl ?_
  show m_run Z (282, 448, [l0, l1, l2, (2, ((r3 : Nat) : Int)), l4, l5, (0, x6)], [(0, (l_cmp (σ r3 (w32 0).toNat) (w32 x6)))], (K, σ, n, e, s)) = _
  exact g_brq (t := 453) (off := 5) (by decide +kernel : decode (m_byt 282) 448 = .ok (.ifCond .eq 5, 3)) rfl rfl (by decide)
theorem b_282_451 {Z : mZ} {l0 l1 l2 l3 l4 l5 l6 : mV} {h : mH} : m_run Z (282, 451, [l0, l1, l2, l3, l4, l5, l6], [], h) = some (.inl (0, 0), h) := by
  refine g_base (by decide +kernel : decode (m_byt 282) 451 = .ok (.iconst 0, 1)) rfl rfl ?_
  show m_run Z (282, 452, [l0, l1, l2, l3, l4, l5, l6], [(0, 0)], h) = _
  exact g_zret (by decide +kernel : decode (m_byt 282) 452 = .ok (.ireturn, 1)) (by decide +kernel) (by decide)
theorem b_282_453 {Z : mZ} {l0 l1 l2 l5 l6 : mV} {x4 : Int} {r3 : Nat} {h : mH} : m_run Z (282, 453, [l0, l1, l2, (2, ((r3 : Nat) : Int)), (0, x4), l5, l6], [], h) = m_run Z (282, 23, [l0, l1, l2, (2, ((r3 : Nat) : Int)), (0, x4 + 6), l5, l6], [], h) := by
  refine g_jmp (t := 2388) (by decide +kernel : decode (m_byt 282) 453 = .ok (.goto 1935, 3)) (by decide) ?_
  refine g_iinc (k := 4) (x := x4) (by decide +kernel : decode (m_byt 282) 2388 = .ok (.iinc 4 6, 3)) rfl (Nat.le_of_ble_eq_true rfl) ?_
  show m_run Z (282, 2391, [l0, l1, l2, (2, ((r3 : Nat) : Int)), (0, x4 + 6), l5, l6], [], h) = _
  refine g_jmp (t := 23) (by decide +kernel : decode (m_byt 282) 2391 = .ok (.goto (-2368), 3)) (by decide) ?_
  rfl
theorem b_282_456 {Z : mZ} {l2 l5 l6 : mV} {x0 x4 : Int} {r1 r3 : Nat} {h : mH} (h0 : 0 ≤ w32 (x4 + 1)) (h1 : w32 (x4 + 1) < (Z.1 : Int)) (h2 : 0 ≤ w32 (x4 + 2)) (h3 : w32 (x4 + 2) < (Z.1 : Int)) : m_run Z (282, 456, [(4, x0), (2, ((r1 : Nat) : Int)), l2, (2, ((r3 : Nat) : Int)), (0, x4), l5, l6], [], h) = (m_cl Z 255 [(2, ((r1 : Nat) : Int)), (0, (Z.2 (w32 (x4 + 1)).toNat).toInt), (0, (Z.2 (w32 (x4 + 2)).toNat).toInt), (2, ((r3 : Nat) : Int))] h).bind (m_aft (m_run Z) 282 470 [(4, x0), (2, ((r1 : Nat) : Int)), l2, (2, ((r3 : Nat) : Int)), (0, x4), l5, l6] []) := by
  refine g_aload_n (k := 1) (v := (2, ((r1 : Nat) : Int))) (by decide +kernel : decode (m_byt 282) 456 = .ok (.aload_n 1, 1)) rfl (Or.inl rfl) ?_
  refine g_aload_n (k := 0) (v := (4, x0)) (by decide +kernel : decode (m_byt 282) 457 = .ok (.aload_n 0, 1)) rfl (Or.inr (Or.inr rfl)) ?_
  refine g_iload (k := 4) (x := x4) (by decide +kernel : decode (m_byt 282) 458 = .ok (.iload 4, 2)) rfl ?_
  refine g_base (by decide +kernel : decode (m_byt 282) 460 = .ok (.iconst 1, 1)) rfl rfl ?_
  show m_run Z (282, 461, [(4, x0), (2, ((r1 : Nat) : Int)), l2, (2, ((r3 : Nat) : Int)), (0, x4), l5, l6], [(0, 1), (0, x4), (4, x0), (2, ((r1 : Nat) : Int))], h) = _
  refine g_base (by decide +kernel : decode (m_byt 282) 461 = .ok (.iadd, 1)) rfl rfl ?_
  show m_run Z (282, 462, [(4, x0), (2, ((r1 : Nat) : Int)), l2, (2, ((r3 : Nat) : Int)), (0, x4), l5, l6], [(0, (x4 + 1)), (4, x0), (2, ((r1 : Nat) : Int))], h) = _
  refine g_sald (by decide +kernel : decode (m_byt 282) 462 = .ok (.iaload, 1)) h0 h1 ?_
  refine g_aload_n (k := 0) (v := (4, x0)) (by decide +kernel : decode (m_byt 282) 463 = .ok (.aload_n 0, 1)) rfl (Or.inr (Or.inr rfl)) ?_
  refine g_iload (k := 4) (x := x4) (by decide +kernel : decode (m_byt 282) 464 = .ok (.iload 4, 2)) rfl ?_
  refine g_base (by decide +kernel : decode (m_byt 282) 466 = .ok (.iconst 2, 1)) rfl rfl ?_
  show m_run Z (282, 467, [(4, x0), (2, ((r1 : Nat) : Int)), l2, (2, ((r3 : Nat) : Int)), (0, x4), l5, l6], [(0, 2), (0, x4), (4, x0), (0, (Z.2 (w32 (x4 + 1)).toNat).toInt), (2, ((r1 : Nat) : Int))], h) = _
  refine g_base (by decide +kernel : decode (m_byt 282) 467 = .ok (.iadd, 1)) rfl rfl ?_
  show m_run Z (282, 468, [(4, x0), (2, ((r1 : Nat) : Int)), l2, (2, ((r3 : Nat) : Int)), (0, x4), l5, l6], [(0, (x4 + 2)), (4, x0), (0, (Z.2 (w32 (x4 + 1)).toNat).toInt), (2, ((r1 : Nat) : Int))], h) = _
  refine g_sald (by decide +kernel : decode (m_byt 282) 468 = .ok (.iaload, 1)) h2 h3 ?_
  refine g_aload_n (k := 3) (v := (2, ((r3 : Nat) : Int))) (by decide +kernel : decode (m_byt 282) 469 = .ok (.aload_n 3, 1)) rfl (Or.inl rfl) ?_
  exact g_inv (k := 0) (m' := 255) (np := 4) (as := [(2, ((r1 : Nat) : Int)), (0, (Z.2 (w32 (x4 + 1)).toNat).toInt), (0, (Z.2 (w32 (x4 + 2)).toNat).toInt), (2, ((r3 : Nat) : Int))]) (by decide +kernel : decode (m_byt 282) 470 = .ok (.invokestatic 139, 3)) (Or.inr (Or.inr ⟨rfl, rfl, by decide, by decide⟩)) (by decide +kernel) (by decide +kernel) (by decide +kernel) (Nat.le_of_ble_eq_true rfl) rfl (Or.inl rfl)
theorem b_282_473 {Z : mZ} {l1 l3 l5 l6 : mV} {s0 x4 x0 : Int} {r2 : Nat} {K : Nat → mK} {σ : Nat → Nat → Int} {n e s : Nat} (h0 : 0 ≤ w32 (x4 + 1)) (h1 : w32 (x4 + 1) < (Z.1 : Int)) (h2 : 0 ≤ w32 (x4 + 2)) (h3 : w32 (x4 + 2) < (Z.1 : Int)) (h4 : q_ob K n r2 7) : m_run Z (282, 473, [(4, x0), l1, (2, ((r2 : Nat) : Int)), l3, (0, x4), l5, l6], [(0, s0)], (K, σ, n, e, s)) = (m_cl Z 173 [(2, ((r2 : Nat) : Int)), (0, (Z.2 (w32 (x4 + 1)).toNat).toInt), (0, (Z.2 (w32 (x4 + 2)).toNat).toInt)] (K, σ, n, e, s)).bind (m_aft (m_run Z) 282 488 [(4, x0), l1, (2, ((r2 : Nat) : Int)), l3, (0, x4), (0, s0), l6] []) := by
  refine g_istore (k := 5) (by decide +kernel : decode (m_byt 282) 473 = .ok (.istore 5, 2)) (Nat.le_of_ble_eq_true rfl) ?_
  show m_run Z (282, 475, [(4, x0), l1, (2, ((r2 : Nat) : Int)), l3, (0, x4), (0, s0), l6], [], (K, σ, n, e, s)) = _
  refine g_aload_n (k := 2) (v := (2, ((r2 : Nat) : Int))) (by decide +kernel : decode (m_byt 282) 475 = .ok (.aload_n 2, 1)) rfl (Or.inl rfl) ?_
  refine g_aload_n (k := 0) (v := (4, x0)) (by decide +kernel : decode (m_byt 282) 476 = .ok (.aload_n 0, 1)) rfl (Or.inr (Or.inr rfl)) ?_
  refine g_iload (k := 4) (x := x4) (by decide +kernel : decode (m_byt 282) 477 = .ok (.iload 4, 2)) rfl ?_
  refine g_base (by decide +kernel : decode (m_byt 282) 479 = .ok (.iconst 1, 1)) rfl rfl ?_
  show m_run Z (282, 480, [(4, x0), l1, (2, ((r2 : Nat) : Int)), l3, (0, x4), (0, s0), l6], [(0, 1), (0, x4), (4, x0), (2, ((r2 : Nat) : Int))], (K, σ, n, e, s)) = _
  refine g_base (by decide +kernel : decode (m_byt 282) 480 = .ok (.iadd, 1)) rfl rfl ?_
  show m_run Z (282, 481, [(4, x0), l1, (2, ((r2 : Nat) : Int)), l3, (0, x4), (0, s0), l6], [(0, (x4 + 1)), (4, x0), (2, ((r2 : Nat) : Int))], (K, σ, n, e, s)) = _
  refine g_sald (by decide +kernel : decode (m_byt 282) 481 = .ok (.iaload, 1)) h0 h1 ?_
  refine g_aload_n (k := 0) (v := (4, x0)) (by decide +kernel : decode (m_byt 282) 482 = .ok (.aload_n 0, 1)) rfl (Or.inr (Or.inr rfl)) ?_
  refine g_iload (k := 4) (x := x4) (by decide +kernel : decode (m_byt 282) 483 = .ok (.iload 4, 2)) rfl ?_
  refine g_base (by decide +kernel : decode (m_byt 282) 485 = .ok (.iconst 2, 1)) rfl rfl ?_
  show m_run Z (282, 486, [(4, x0), l1, (2, ((r2 : Nat) : Int)), l3, (0, x4), (0, s0), l6], [(0, 2), (0, x4), (4, x0), (0, (Z.2 (w32 (x4 + 1)).toNat).toInt), (2, ((r2 : Nat) : Int))], (K, σ, n, e, s)) = _
  refine g_base (by decide +kernel : decode (m_byt 282) 486 = .ok (.iadd, 1)) rfl rfl ?_
  show m_run Z (282, 487, [(4, x0), l1, (2, ((r2 : Nat) : Int)), l3, (0, x4), (0, s0), l6], [(0, (x4 + 2)), (4, x0), (0, (Z.2 (w32 (x4 + 1)).toNat).toInt), (2, ((r2 : Nat) : Int))], (K, σ, n, e, s)) = _
  refine g_sald (by decide +kernel : decode (m_byt 282) 487 = .ok (.iaload, 1)) h2 h3 ?_
  exact g_inv (k := 1) (m' := 173) (np := 2) (as := [(2, ((r2 : Nat) : Int)), (0, (Z.2 (w32 (x4 + 1)).toNat).toInt), (0, (Z.2 (w32 (x4 + 2)).toNat).toInt)]) (by decide +kernel : decode (m_byt 282) 488 = .ok (.invokevirtual 141, 3)) (Or.inl ⟨rfl, rfl⟩) (by decide +kernel) (by decide +kernel) (by decide +kernel) (Nat.le_of_ble_eq_true rfl) rfl (Or.inr (g_rcv (by decide +kernel) h4))
theorem b_282_491 {Z : mZ} {l0 l1 l3 l4 l6 : mV} {s0 x5 : Int} {r2 : Nat} {K : Nat → mK} {σ : Nat → Nat → Int} {n e s : Nat} (h0 : q_ob K n r2 7) : m_run Z (282, 491, [l0, l1, (2, ((r2 : Nat) : Int)), l3, l4, (0, x5), l6], [(0, s0)], (K, σ, n, e, s)) = (m_cl Z 150 [(2, ((r2 : Nat) : Int))] (K, σ, n, e, s)).bind (m_aft (m_run Z) 282 494 [l0, l1, (2, ((r2 : Nat) : Int)), l3, l4, (0, x5), (0, s0)] []) := by
  refine g_istore (k := 6) (by decide +kernel : decode (m_byt 282) 491 = .ok (.istore 6, 2)) (Nat.le_of_ble_eq_true rfl) ?_
  show m_run Z (282, 493, [l0, l1, (2, ((r2 : Nat) : Int)), l3, l4, (0, x5), (0, s0)], [], (K, σ, n, e, s)) = _
  refine g_aload_n (k := 2) (v := (2, ((r2 : Nat) : Int))) (by decide +kernel : decode (m_byt 282) 493 = .ok (.aload_n 2, 1)) rfl (Or.inl rfl) ?_
  exact g_inv (k := 1) (m' := 150) (np := 0) (as := [(2, ((r2 : Nat) : Int))]) (by decide +kernel : decode (m_byt 282) 494 = .ok (.invokevirtual 125, 3)) (Or.inl ⟨rfl, rfl⟩) (by decide +kernel) (by decide +kernel) (by decide +kernel) (Nat.le_of_ble_eq_true rfl) rfl (Or.inr (g_rcv (by decide +kernel) h0))
theorem b_282_497 {Z : mZ} {l0 l1 l2 l3 l4 l6 : mV} {s0 x5 : Int} {h : mH} : m_run Z (282, 497, [l0, l1, l2, l3, l4, (0, x5), l6], [(0, s0)], h) = if w32 s0 = w32 x5 then m_run Z (282, 504, [l0, l1, l2, l3, l4, (0, x5), l6], [], h) else m_run Z (282, 502, [l0, l1, l2, l3, l4, (0, x5), l6], [], h) := by
  refine g_iload (k := 5) (x := x5) (by decide +kernel : decode (m_byt 282) 497 = .ok (.iload 5, 2)) rfl ?_
  exact g_brq (t := 504) (off := 5) (by decide +kernel : decode (m_byt 282) 499 = .ok (.if_icmp .eq 5, 3)) rfl rfl (by decide)
theorem b_282_502 {Z : mZ} {l0 l1 l2 l3 l4 l5 l6 : mV} {h : mH} : m_run Z (282, 502, [l0, l1, l2, l3, l4, l5, l6], [], h) = some (.inl (0, 0), h) := by
  refine g_base (by decide +kernel : decode (m_byt 282) 502 = .ok (.iconst 0, 1)) rfl rfl ?_
  show m_run Z (282, 503, [l0, l1, l2, l3, l4, l5, l6], [(0, 0)], h) = _
  exact g_zret (by decide +kernel : decode (m_byt 282) 503 = .ok (.ireturn, 1)) (by decide +kernel) (by decide)
theorem b_282_504 {Z : mZ} {l0 l1 l2 l3 l4 l6 : mV} {x5 : Int} {h : mH} : m_run Z (282, 504, [l0, l1, l2, l3, l4, (0, x5), l6], [], h) = if w32 x5 = 0 then m_run Z (282, 509, [l0, l1, l2, l3, l4, (0, x5), l6], [], h) else m_run Z (282, 521, [l0, l1, l2, l3, l4, (0, x5), l6], [], h) := by
  refine g_iload (k := 5) (x := x5) (by decide +kernel : decode (m_byt 282) 504 = .ok (.iload 5, 2)) rfl ?_
  exact g_brn (t := 521) (off := 15) (by decide +kernel : decode (m_byt 282) 506 = .ok (.ifCond .ne 15, 3)) rfl rfl (by decide)
theorem b_282_509 {Z : mZ} {l0 l1 l2 l4 l5 : mV} {x6 : Int} {r3 : Nat} {K : Nat → mK} {σ : Nat → Nat → Int} {n e s : Nat} (h0 : 0 ≤ w32 0) (h1 : w32 0 < (q_ln K r3 : Int)) (h2 : q_ak K n r3 3) : m_run Z (282, 509, [l0, l1, l2, (2, ((r3 : Nat) : Int)), l4, l5, (0, x6)], [], (K, σ, n, e, s)) = if w32 (l_cmp (σ r3 (w32 0).toNat) (w32 x6)) = 0 then m_run Z (282, 521, [l0, l1, l2, (2, ((r3 : Nat) : Int)), l4, l5, (0, x6)], [], (K, σ, n, e, s)) else m_run Z (282, 519, [l0, l1, l2, (2, ((r3 : Nat) : Int)), l4, l5, (0, x6)], [], (K, σ, n, e, s)) := by
  refine g_aload_n (k := 3) (v := (2, ((r3 : Nat) : Int))) (by decide +kernel : decode (m_byt 282) 509 = .ok (.aload_n 3, 1)) rfl (Or.inl rfl) ?_
  refine g_base (by decide +kernel : decode (m_byt 282) 510 = .ok (.iconst 0, 1)) rfl rfl ?_
  show m_run Z (282, 511, [l0, l1, l2, (2, ((r3 : Nat) : Int)), l4, l5, (0, x6)], [(0, 0), (2, ((r3 : Nat) : Int))], (K, σ, n, e, s)) = _
  refine g_lald (by decide +kernel : decode (m_byt 282) 511 = .ok (.laload, 1)) h2 h0 h1 ?_
  refine g_iload (k := 6) (x := x6) (by decide +kernel : decode (m_byt 282) 512 = .ok (.iload 6, 2)) rfl ?_
  refine g_base (by decide +kernel : decode (m_byt 282) 514 = .ok (.i2l, 1)) rfl rfl ?_
  show m_run Z (282, 515, [l0, l1, l2, (2, ((r3 : Nat) : Int)), l4, l5, (0, x6)], [(1, (w32 x6)), (1, (σ r3 (w32 0).toNat))], (K, σ, n, e, s)) = _
  refine g_base (by decide +kernel : decode (m_byt 282) 515 = .ok (.lcmp, 1)) rfl rfl ?_
  show m_run Z (282, 516, [l0, l1, l2, (2, ((r3 : Nat) : Int)), l4, l5, (0, x6)], [(0, (l_cmp (σ r3 (w32 0).toNat) (w32 x6)))], (K, σ, n, e, s)) = _
  exact g_brq (t := 521) (off := 5) (by decide +kernel : decode (m_byt 282) 516 = .ok (.ifCond .eq 5, 3)) rfl rfl (by decide)
theorem b_282_519 {Z : mZ} {l0 l1 l2 l3 l4 l5 l6 : mV} {h : mH} : m_run Z (282, 519, [l0, l1, l2, l3, l4, l5, l6], [], h) = some (.inl (0, 0), h) := by
  refine g_base (by decide +kernel : decode (m_byt 282) 519 = .ok (.iconst 0, 1)) rfl rfl ?_
  show m_run Z (282, 520, [l0, l1, l2, l3, l4, l5, l6], [(0, 0)], h) = _
  exact g_zret (by decide +kernel : decode (m_byt 282) 520 = .ok (.ireturn, 1)) (by decide +kernel) (by decide)
theorem b_282_521 {Z : mZ} {l0 l1 l2 l5 l6 : mV} {x4 : Int} {r3 : Nat} {h : mH} : m_run Z (282, 521, [l0, l1, l2, (2, ((r3 : Nat) : Int)), (0, x4), l5, l6], [], h) = m_run Z (282, 23, [l0, l1, l2, (2, ((r3 : Nat) : Int)), (0, x4 + 6), l5, l6], [], h) := by
  refine g_jmp (t := 2388) (by decide +kernel : decode (m_byt 282) 521 = .ok (.goto 1867, 3)) (by decide) ?_
  refine g_iinc (k := 4) (x := x4) (by decide +kernel : decode (m_byt 282) 2388 = .ok (.iinc 4 6, 3)) rfl (Nat.le_of_ble_eq_true rfl) ?_
  show m_run Z (282, 2391, [l0, l1, l2, (2, ((r3 : Nat) : Int)), (0, x4 + 6), l5, l6], [], h) = _
  refine g_jmp (t := 23) (by decide +kernel : decode (m_byt 282) 2391 = .ok (.goto (-2368), 3)) (by decide) ?_
  rfl
theorem b_282_524 {Z : mZ} {l2 l5 l6 : mV} {x0 x4 : Int} {r1 r3 : Nat} {h : mH} (h0 : 0 ≤ w32 (x4 + 1)) (h1 : w32 (x4 + 1) < (Z.1 : Int)) (h2 : 0 ≤ w32 (x4 + 2)) (h3 : w32 (x4 + 2) < (Z.1 : Int)) (h4 : 0 ≤ w32 (x4 + 3)) (h5 : w32 (x4 + 3) < (Z.1 : Int)) : m_run Z (282, 524, [(4, x0), (2, ((r1 : Nat) : Int)), l2, (2, ((r3 : Nat) : Int)), (0, x4), l5, l6], [], h) = (m_cl Z 256 [(2, ((r1 : Nat) : Int)), (0, (Z.2 (w32 (x4 + 1)).toNat).toInt), (0, (Z.2 (w32 (x4 + 2)).toNat).toInt), (0, (Z.2 (w32 (x4 + 3)).toNat).toInt), (2, ((r3 : Nat) : Int))] h).bind (m_aft (m_run Z) 282 544 [(4, x0), (2, ((r1 : Nat) : Int)), l2, (2, ((r3 : Nat) : Int)), (0, x4), l5, l6] []) := by
  refine g_aload_n (k := 1) (v := (2, ((r1 : Nat) : Int))) (by decide +kernel : decode (m_byt 282) 524 = .ok (.aload_n 1, 1)) rfl (Or.inl rfl) ?_
  refine g_aload_n (k := 0) (v := (4, x0)) (by decide +kernel : decode (m_byt 282) 525 = .ok (.aload_n 0, 1)) rfl (Or.inr (Or.inr rfl)) ?_
  refine g_iload (k := 4) (x := x4) (by decide +kernel : decode (m_byt 282) 526 = .ok (.iload 4, 2)) rfl ?_
  refine g_base (by decide +kernel : decode (m_byt 282) 528 = .ok (.iconst 1, 1)) rfl rfl ?_
  show m_run Z (282, 529, [(4, x0), (2, ((r1 : Nat) : Int)), l2, (2, ((r3 : Nat) : Int)), (0, x4), l5, l6], [(0, 1), (0, x4), (4, x0), (2, ((r1 : Nat) : Int))], h) = _
  refine g_base (by decide +kernel : decode (m_byt 282) 529 = .ok (.iadd, 1)) rfl rfl ?_
  show m_run Z (282, 530, [(4, x0), (2, ((r1 : Nat) : Int)), l2, (2, ((r3 : Nat) : Int)), (0, x4), l5, l6], [(0, (x4 + 1)), (4, x0), (2, ((r1 : Nat) : Int))], h) = _
  refine g_sald (by decide +kernel : decode (m_byt 282) 530 = .ok (.iaload, 1)) h0 h1 ?_
  refine g_aload_n (k := 0) (v := (4, x0)) (by decide +kernel : decode (m_byt 282) 531 = .ok (.aload_n 0, 1)) rfl (Or.inr (Or.inr rfl)) ?_
  refine g_iload (k := 4) (x := x4) (by decide +kernel : decode (m_byt 282) 532 = .ok (.iload 4, 2)) rfl ?_
  refine g_base (by decide +kernel : decode (m_byt 282) 534 = .ok (.iconst 2, 1)) rfl rfl ?_
  show m_run Z (282, 535, [(4, x0), (2, ((r1 : Nat) : Int)), l2, (2, ((r3 : Nat) : Int)), (0, x4), l5, l6], [(0, 2), (0, x4), (4, x0), (0, (Z.2 (w32 (x4 + 1)).toNat).toInt), (2, ((r1 : Nat) : Int))], h) = _
  refine g_base (by decide +kernel : decode (m_byt 282) 535 = .ok (.iadd, 1)) rfl rfl ?_
  show m_run Z (282, 536, [(4, x0), (2, ((r1 : Nat) : Int)), l2, (2, ((r3 : Nat) : Int)), (0, x4), l5, l6], [(0, (x4 + 2)), (4, x0), (0, (Z.2 (w32 (x4 + 1)).toNat).toInt), (2, ((r1 : Nat) : Int))], h) = _
  refine g_sald (by decide +kernel : decode (m_byt 282) 536 = .ok (.iaload, 1)) h2 h3 ?_
  refine g_aload_n (k := 0) (v := (4, x0)) (by decide +kernel : decode (m_byt 282) 537 = .ok (.aload_n 0, 1)) rfl (Or.inr (Or.inr rfl)) ?_
  refine g_iload (k := 4) (x := x4) (by decide +kernel : decode (m_byt 282) 538 = .ok (.iload 4, 2)) rfl ?_
  refine g_base (by decide +kernel : decode (m_byt 282) 540 = .ok (.iconst 3, 1)) rfl rfl ?_
  show m_run Z (282, 541, [(4, x0), (2, ((r1 : Nat) : Int)), l2, (2, ((r3 : Nat) : Int)), (0, x4), l5, l6], [(0, 3), (0, x4), (4, x0), (0, (Z.2 (w32 (x4 + 2)).toNat).toInt), (0, (Z.2 (w32 (x4 + 1)).toNat).toInt), (2, ((r1 : Nat) : Int))], h) = _
  refine g_base (by decide +kernel : decode (m_byt 282) 541 = .ok (.iadd, 1)) rfl rfl ?_
  show m_run Z (282, 542, [(4, x0), (2, ((r1 : Nat) : Int)), l2, (2, ((r3 : Nat) : Int)), (0, x4), l5, l6], [(0, (x4 + 3)), (4, x0), (0, (Z.2 (w32 (x4 + 2)).toNat).toInt), (0, (Z.2 (w32 (x4 + 1)).toNat).toInt), (2, ((r1 : Nat) : Int))], h) = _
  refine g_sald (by decide +kernel : decode (m_byt 282) 542 = .ok (.iaload, 1)) h4 h5 ?_
  refine g_aload_n (k := 3) (v := (2, ((r3 : Nat) : Int))) (by decide +kernel : decode (m_byt 282) 543 = .ok (.aload_n 3, 1)) rfl (Or.inl rfl) ?_
  exact g_inv (k := 0) (m' := 256) (np := 5) (as := [(2, ((r1 : Nat) : Int)), (0, (Z.2 (w32 (x4 + 1)).toNat).toInt), (0, (Z.2 (w32 (x4 + 2)).toNat).toInt), (0, (Z.2 (w32 (x4 + 3)).toNat).toInt), (2, ((r3 : Nat) : Int))]) (by decide +kernel : decode (m_byt 282) 544 = .ok (.invokestatic 142, 3)) (Or.inr (Or.inr ⟨rfl, rfl, by decide, by decide⟩)) (by decide +kernel) (by decide +kernel) (by decide +kernel) (Nat.le_of_ble_eq_true rfl) rfl (Or.inl rfl)
theorem b_282_547 {Z : mZ} {l1 l3 l5 l6 : mV} {s0 x4 x0 : Int} {r2 : Nat} {K : Nat → mK} {σ : Nat → Nat → Int} {n e s : Nat} (h0 : 0 ≤ w32 (x4 + 1)) (h1 : w32 (x4 + 1) < (Z.1 : Int)) (h2 : 0 ≤ w32 (x4 + 2)) (h3 : w32 (x4 + 2) < (Z.1 : Int)) (h4 : 0 ≤ w32 (x4 + 3)) (h5 : w32 (x4 + 3) < (Z.1 : Int)) (h6 : q_ob K n r2 7) : m_run Z (282, 547, [(4, x0), l1, (2, ((r2 : Nat) : Int)), l3, (0, x4), l5, l6], [(0, s0)], (K, σ, n, e, s)) = (m_cl Z 176 [(2, ((r2 : Nat) : Int)), (0, (Z.2 (w32 (x4 + 1)).toNat).toInt), (0, (Z.2 (w32 (x4 + 2)).toNat).toInt), (0, (Z.2 (w32 (x4 + 3)).toNat).toInt)] (K, σ, n, e, s)).bind (m_aft (m_run Z) 282 568 [(4, x0), l1, (2, ((r2 : Nat) : Int)), l3, (0, x4), (0, s0), l6] []) := by
  refine g_istore (k := 5) (by decide +kernel : decode (m_byt 282) 547 = .ok (.istore 5, 2)) (Nat.le_of_ble_eq_true rfl) ?_
  show m_run Z (282, 549, [(4, x0), l1, (2, ((r2 : Nat) : Int)), l3, (0, x4), (0, s0), l6], [], (K, σ, n, e, s)) = _
  refine g_aload_n (k := 2) (v := (2, ((r2 : Nat) : Int))) (by decide +kernel : decode (m_byt 282) 549 = .ok (.aload_n 2, 1)) rfl (Or.inl rfl) ?_
  refine g_aload_n (k := 0) (v := (4, x0)) (by decide +kernel : decode (m_byt 282) 550 = .ok (.aload_n 0, 1)) rfl (Or.inr (Or.inr rfl)) ?_
  refine g_iload (k := 4) (x := x4) (by decide +kernel : decode (m_byt 282) 551 = .ok (.iload 4, 2)) rfl ?_
  refine g_base (by decide +kernel : decode (m_byt 282) 553 = .ok (.iconst 1, 1)) rfl rfl ?_
  show m_run Z (282, 554, [(4, x0), l1, (2, ((r2 : Nat) : Int)), l3, (0, x4), (0, s0), l6], [(0, 1), (0, x4), (4, x0), (2, ((r2 : Nat) : Int))], (K, σ, n, e, s)) = _
  refine g_base (by decide +kernel : decode (m_byt 282) 554 = .ok (.iadd, 1)) rfl rfl ?_
  show m_run Z (282, 555, [(4, x0), l1, (2, ((r2 : Nat) : Int)), l3, (0, x4), (0, s0), l6], [(0, (x4 + 1)), (4, x0), (2, ((r2 : Nat) : Int))], (K, σ, n, e, s)) = _
  refine g_sald (by decide +kernel : decode (m_byt 282) 555 = .ok (.iaload, 1)) h0 h1 ?_
  refine g_aload_n (k := 0) (v := (4, x0)) (by decide +kernel : decode (m_byt 282) 556 = .ok (.aload_n 0, 1)) rfl (Or.inr (Or.inr rfl)) ?_
  refine g_iload (k := 4) (x := x4) (by decide +kernel : decode (m_byt 282) 557 = .ok (.iload 4, 2)) rfl ?_
  refine g_base (by decide +kernel : decode (m_byt 282) 559 = .ok (.iconst 2, 1)) rfl rfl ?_
  show m_run Z (282, 560, [(4, x0), l1, (2, ((r2 : Nat) : Int)), l3, (0, x4), (0, s0), l6], [(0, 2), (0, x4), (4, x0), (0, (Z.2 (w32 (x4 + 1)).toNat).toInt), (2, ((r2 : Nat) : Int))], (K, σ, n, e, s)) = _
  refine g_base (by decide +kernel : decode (m_byt 282) 560 = .ok (.iadd, 1)) rfl rfl ?_
  show m_run Z (282, 561, [(4, x0), l1, (2, ((r2 : Nat) : Int)), l3, (0, x4), (0, s0), l6], [(0, (x4 + 2)), (4, x0), (0, (Z.2 (w32 (x4 + 1)).toNat).toInt), (2, ((r2 : Nat) : Int))], (K, σ, n, e, s)) = _
  refine g_sald (by decide +kernel : decode (m_byt 282) 561 = .ok (.iaload, 1)) h2 h3 ?_
  refine g_aload_n (k := 0) (v := (4, x0)) (by decide +kernel : decode (m_byt 282) 562 = .ok (.aload_n 0, 1)) rfl (Or.inr (Or.inr rfl)) ?_
  refine g_iload (k := 4) (x := x4) (by decide +kernel : decode (m_byt 282) 563 = .ok (.iload 4, 2)) rfl ?_
  refine g_base (by decide +kernel : decode (m_byt 282) 565 = .ok (.iconst 3, 1)) rfl rfl ?_
  show m_run Z (282, 566, [(4, x0), l1, (2, ((r2 : Nat) : Int)), l3, (0, x4), (0, s0), l6], [(0, 3), (0, x4), (4, x0), (0, (Z.2 (w32 (x4 + 2)).toNat).toInt), (0, (Z.2 (w32 (x4 + 1)).toNat).toInt), (2, ((r2 : Nat) : Int))], (K, σ, n, e, s)) = _
  refine g_base (by decide +kernel : decode (m_byt 282) 566 = .ok (.iadd, 1)) rfl rfl ?_
  show m_run Z (282, 567, [(4, x0), l1, (2, ((r2 : Nat) : Int)), l3, (0, x4), (0, s0), l6], [(0, (x4 + 3)), (4, x0), (0, (Z.2 (w32 (x4 + 2)).toNat).toInt), (0, (Z.2 (w32 (x4 + 1)).toNat).toInt), (2, ((r2 : Nat) : Int))], (K, σ, n, e, s)) = _
  refine g_sald (by decide +kernel : decode (m_byt 282) 567 = .ok (.iaload, 1)) h4 h5 ?_
  exact g_inv (k := 1) (m' := 176) (np := 3) (as := [(2, ((r2 : Nat) : Int)), (0, (Z.2 (w32 (x4 + 1)).toNat).toInt), (0, (Z.2 (w32 (x4 + 2)).toNat).toInt), (0, (Z.2 (w32 (x4 + 3)).toNat).toInt)]) (by decide +kernel : decode (m_byt 282) 568 = .ok (.invokevirtual 144, 3)) (Or.inl ⟨rfl, rfl⟩) (by decide +kernel) (by decide +kernel) (by decide +kernel) (Nat.le_of_ble_eq_true rfl) rfl (Or.inr (g_rcv (by decide +kernel) h6))
theorem b_282_571 {Z : mZ} {l0 l1 l3 l4 l6 : mV} {s0 x5 : Int} {r2 : Nat} {K : Nat → mK} {σ : Nat → Nat → Int} {n e s : Nat} (h0 : q_ob K n r2 7) : m_run Z (282, 571, [l0, l1, (2, ((r2 : Nat) : Int)), l3, l4, (0, x5), l6], [(0, s0)], (K, σ, n, e, s)) = (m_cl Z 150 [(2, ((r2 : Nat) : Int))] (K, σ, n, e, s)).bind (m_aft (m_run Z) 282 574 [l0, l1, (2, ((r2 : Nat) : Int)), l3, l4, (0, x5), (0, s0)] []) := by
  refine g_istore (k := 6) (by decide +kernel : decode (m_byt 282) 571 = .ok (.istore 6, 2)) (Nat.le_of_ble_eq_true rfl) ?_
  show m_run Z (282, 573, [l0, l1, (2, ((r2 : Nat) : Int)), l3, l4, (0, x5), (0, s0)], [], (K, σ, n, e, s)) = _
  refine g_aload_n (k := 2) (v := (2, ((r2 : Nat) : Int))) (by decide +kernel : decode (m_byt 282) 573 = .ok (.aload_n 2, 1)) rfl (Or.inl rfl) ?_
  exact g_inv (k := 1) (m' := 150) (np := 0) (as := [(2, ((r2 : Nat) : Int))]) (by decide +kernel : decode (m_byt 282) 574 = .ok (.invokevirtual 125, 3)) (Or.inl ⟨rfl, rfl⟩) (by decide +kernel) (by decide +kernel) (by decide +kernel) (Nat.le_of_ble_eq_true rfl) rfl (Or.inr (g_rcv (by decide +kernel) h0))
theorem b_282_577 {Z : mZ} {l0 l1 l2 l3 l4 l6 : mV} {s0 x5 : Int} {h : mH} : m_run Z (282, 577, [l0, l1, l2, l3, l4, (0, x5), l6], [(0, s0)], h) = if w32 s0 = w32 x5 then m_run Z (282, 584, [l0, l1, l2, l3, l4, (0, x5), l6], [], h) else m_run Z (282, 582, [l0, l1, l2, l3, l4, (0, x5), l6], [], h) := by
  refine g_iload (k := 5) (x := x5) (by decide +kernel : decode (m_byt 282) 577 = .ok (.iload 5, 2)) rfl ?_
  exact g_brq (t := 584) (off := 5) (by decide +kernel : decode (m_byt 282) 579 = .ok (.if_icmp .eq 5, 3)) rfl rfl (by decide)
theorem b_282_582 {Z : mZ} {l0 l1 l2 l3 l4 l5 l6 : mV} {h : mH} : m_run Z (282, 582, [l0, l1, l2, l3, l4, l5, l6], [], h) = some (.inl (0, 0), h) := by
  refine g_base (by decide +kernel : decode (m_byt 282) 582 = .ok (.iconst 0, 1)) rfl rfl ?_
  show m_run Z (282, 583, [l0, l1, l2, l3, l4, l5, l6], [(0, 0)], h) = _
  exact g_zret (by decide +kernel : decode (m_byt 282) 583 = .ok (.ireturn, 1)) (by decide +kernel) (by decide)
theorem b_282_584 {Z : mZ} {l0 l1 l2 l3 l4 l6 : mV} {x5 : Int} {h : mH} : m_run Z (282, 584, [l0, l1, l2, l3, l4, (0, x5), l6], [], h) = if w32 x5 = 0 then m_run Z (282, 589, [l0, l1, l2, l3, l4, (0, x5), l6], [], h) else m_run Z (282, 601, [l0, l1, l2, l3, l4, (0, x5), l6], [], h) := by
  refine g_iload (k := 5) (x := x5) (by decide +kernel : decode (m_byt 282) 584 = .ok (.iload 5, 2)) rfl ?_
  exact g_brn (t := 601) (off := 15) (by decide +kernel : decode (m_byt 282) 586 = .ok (.ifCond .ne 15, 3)) rfl rfl (by decide)
theorem b_282_589 {Z : mZ} {l0 l1 l2 l4 l5 : mV} {x6 : Int} {r3 : Nat} {K : Nat → mK} {σ : Nat → Nat → Int} {n e s : Nat} (h0 : 0 ≤ w32 0) (h1 : w32 0 < (q_ln K r3 : Int)) (h2 : q_ak K n r3 3) : m_run Z (282, 589, [l0, l1, l2, (2, ((r3 : Nat) : Int)), l4, l5, (0, x6)], [], (K, σ, n, e, s)) = if w32 (l_cmp (σ r3 (w32 0).toNat) (w32 x6)) = 0 then m_run Z (282, 601, [l0, l1, l2, (2, ((r3 : Nat) : Int)), l4, l5, (0, x6)], [], (K, σ, n, e, s)) else m_run Z (282, 599, [l0, l1, l2, (2, ((r3 : Nat) : Int)), l4, l5, (0, x6)], [], (K, σ, n, e, s)) := by
  refine g_aload_n (k := 3) (v := (2, ((r3 : Nat) : Int))) (by decide +kernel : decode (m_byt 282) 589 = .ok (.aload_n 3, 1)) rfl (Or.inl rfl) ?_
  refine g_base (by decide +kernel : decode (m_byt 282) 590 = .ok (.iconst 0, 1)) rfl rfl ?_
  show m_run Z (282, 591, [l0, l1, l2, (2, ((r3 : Nat) : Int)), l4, l5, (0, x6)], [(0, 0), (2, ((r3 : Nat) : Int))], (K, σ, n, e, s)) = _
  refine g_lald (by decide +kernel : decode (m_byt 282) 591 = .ok (.laload, 1)) h2 h0 h1 ?_
  refine g_iload (k := 6) (x := x6) (by decide +kernel : decode (m_byt 282) 592 = .ok (.iload 6, 2)) rfl ?_
  refine g_base (by decide +kernel : decode (m_byt 282) 594 = .ok (.i2l, 1)) rfl rfl ?_
  show m_run Z (282, 595, [l0, l1, l2, (2, ((r3 : Nat) : Int)), l4, l5, (0, x6)], [(1, (w32 x6)), (1, (σ r3 (w32 0).toNat))], (K, σ, n, e, s)) = _
  refine g_base (by decide +kernel : decode (m_byt 282) 595 = .ok (.lcmp, 1)) rfl rfl ?_
  show m_run Z (282, 596, [l0, l1, l2, (2, ((r3 : Nat) : Int)), l4, l5, (0, x6)], [(0, (l_cmp (σ r3 (w32 0).toNat) (w32 x6)))], (K, σ, n, e, s)) = _
  exact g_brq (t := 601) (off := 5) (by decide +kernel : decode (m_byt 282) 596 = .ok (.ifCond .eq 5, 3)) rfl rfl (by decide)
theorem b_282_599 {Z : mZ} {l0 l1 l2 l3 l4 l5 l6 : mV} {h : mH} : m_run Z (282, 599, [l0, l1, l2, l3, l4, l5, l6], [], h) = some (.inl (0, 0), h) := by
  refine g_base (by decide +kernel : decode (m_byt 282) 599 = .ok (.iconst 0, 1)) rfl rfl ?_
  show m_run Z (282, 600, [l0, l1, l2, l3, l4, l5, l6], [(0, 0)], h) = _
  exact g_zret (by decide +kernel : decode (m_byt 282) 600 = .ok (.ireturn, 1)) (by decide +kernel) (by decide)
theorem b_282_601 {Z : mZ} {l0 l1 l2 l5 l6 : mV} {x4 : Int} {r3 : Nat} {h : mH} : m_run Z (282, 601, [l0, l1, l2, (2, ((r3 : Nat) : Int)), (0, x4), l5, l6], [], h) = m_run Z (282, 23, [l0, l1, l2, (2, ((r3 : Nat) : Int)), (0, x4 + 6), l5, l6], [], h) := by
  refine g_jmp (t := 2388) (by decide +kernel : decode (m_byt 282) 601 = .ok (.goto 1787, 3)) (by decide) ?_
  refine g_iinc (k := 4) (x := x4) (by decide +kernel : decode (m_byt 282) 2388 = .ok (.iinc 4 6, 3)) rfl (Nat.le_of_ble_eq_true rfl) ?_
  show m_run Z (282, 2391, [l0, l1, l2, (2, ((r3 : Nat) : Int)), (0, x4 + 6), l5, l6], [], h) = _
  refine g_jmp (t := 23) (by decide +kernel : decode (m_byt 282) 2391 = .ok (.goto (-2368), 3)) (by decide) ?_
  rfl
theorem b_282_604 {Z : mZ} {l2 l5 l6 : mV} {x0 x4 : Int} {r1 r3 : Nat} {h : mH} (h0 : 0 ≤ w32 (x4 + 1)) (h1 : w32 (x4 + 1) < (Z.1 : Int)) : m_run Z (282, 604, [(4, x0), (2, ((r1 : Nat) : Int)), l2, (2, ((r3 : Nat) : Int)), (0, x4), l5, l6], [], h) = (m_cl Z 257 [(2, ((r1 : Nat) : Int)), (0, (Z.2 (w32 (x4 + 1)).toNat).toInt), (2, ((r3 : Nat) : Int))] h).bind (m_aft (m_run Z) 282 612 [(4, x0), (2, ((r1 : Nat) : Int)), l2, (2, ((r3 : Nat) : Int)), (0, x4), l5, l6] []) := by
  refine g_aload_n (k := 1) (v := (2, ((r1 : Nat) : Int))) (by decide +kernel : decode (m_byt 282) 604 = .ok (.aload_n 1, 1)) rfl (Or.inl rfl) ?_
  refine g_aload_n (k := 0) (v := (4, x0)) (by decide +kernel : decode (m_byt 282) 605 = .ok (.aload_n 0, 1)) rfl (Or.inr (Or.inr rfl)) ?_
  refine g_iload (k := 4) (x := x4) (by decide +kernel : decode (m_byt 282) 606 = .ok (.iload 4, 2)) rfl ?_
  refine g_base (by decide +kernel : decode (m_byt 282) 608 = .ok (.iconst 1, 1)) rfl rfl ?_
  show m_run Z (282, 609, [(4, x0), (2, ((r1 : Nat) : Int)), l2, (2, ((r3 : Nat) : Int)), (0, x4), l5, l6], [(0, 1), (0, x4), (4, x0), (2, ((r1 : Nat) : Int))], h) = _
  refine g_base (by decide +kernel : decode (m_byt 282) 609 = .ok (.iadd, 1)) rfl rfl ?_
  show m_run Z (282, 610, [(4, x0), (2, ((r1 : Nat) : Int)), l2, (2, ((r3 : Nat) : Int)), (0, x4), l5, l6], [(0, (x4 + 1)), (4, x0), (2, ((r1 : Nat) : Int))], h) = _
  refine g_sald (by decide +kernel : decode (m_byt 282) 610 = .ok (.iaload, 1)) h0 h1 ?_
  refine g_aload_n (k := 3) (v := (2, ((r3 : Nat) : Int))) (by decide +kernel : decode (m_byt 282) 611 = .ok (.aload_n 3, 1)) rfl (Or.inl rfl) ?_
  exact g_inv (k := 0) (m' := 257) (np := 3) (as := [(2, ((r1 : Nat) : Int)), (0, (Z.2 (w32 (x4 + 1)).toNat).toInt), (2, ((r3 : Nat) : Int))]) (by decide +kernel : decode (m_byt 282) 612 = .ok (.invokestatic 145, 3)) (Or.inr (Or.inr ⟨rfl, rfl, by decide, by decide⟩)) (by decide +kernel) (by decide +kernel) (by decide +kernel) (Nat.le_of_ble_eq_true rfl) rfl (Or.inl rfl)
theorem b_282_615 {Z : mZ} {l1 l3 l5 l6 : mV} {s0 x4 x0 : Int} {r2 : Nat} {K : Nat → mK} {σ : Nat → Nat → Int} {n e s : Nat} (h0 : 0 ≤ w32 (x4 + 1)) (h1 : w32 (x4 + 1) < (Z.1 : Int)) (h2 : q_ob K n r2 7) : m_run Z (282, 615, [(4, x0), l1, (2, ((r2 : Nat) : Int)), l3, (0, x4), l5, l6], [(0, s0)], (K, σ, n, e, s)) = (m_cl Z 177 [(2, ((r2 : Nat) : Int)), (0, (Z.2 (w32 (x4 + 1)).toNat).toInt)] (K, σ, n, e, s)).bind (m_aft (m_run Z) 282 624 [(4, x0), l1, (2, ((r2 : Nat) : Int)), l3, (0, x4), (0, s0), l6] []) := by
  refine g_istore (k := 5) (by decide +kernel : decode (m_byt 282) 615 = .ok (.istore 5, 2)) (Nat.le_of_ble_eq_true rfl) ?_
  show m_run Z (282, 617, [(4, x0), l1, (2, ((r2 : Nat) : Int)), l3, (0, x4), (0, s0), l6], [], (K, σ, n, e, s)) = _
  refine g_aload_n (k := 2) (v := (2, ((r2 : Nat) : Int))) (by decide +kernel : decode (m_byt 282) 617 = .ok (.aload_n 2, 1)) rfl (Or.inl rfl) ?_
  refine g_aload_n (k := 0) (v := (4, x0)) (by decide +kernel : decode (m_byt 282) 618 = .ok (.aload_n 0, 1)) rfl (Or.inr (Or.inr rfl)) ?_
  refine g_iload (k := 4) (x := x4) (by decide +kernel : decode (m_byt 282) 619 = .ok (.iload 4, 2)) rfl ?_
  refine g_base (by decide +kernel : decode (m_byt 282) 621 = .ok (.iconst 1, 1)) rfl rfl ?_
  show m_run Z (282, 622, [(4, x0), l1, (2, ((r2 : Nat) : Int)), l3, (0, x4), (0, s0), l6], [(0, 1), (0, x4), (4, x0), (2, ((r2 : Nat) : Int))], (K, σ, n, e, s)) = _
  refine g_base (by decide +kernel : decode (m_byt 282) 622 = .ok (.iadd, 1)) rfl rfl ?_
  show m_run Z (282, 623, [(4, x0), l1, (2, ((r2 : Nat) : Int)), l3, (0, x4), (0, s0), l6], [(0, (x4 + 1)), (4, x0), (2, ((r2 : Nat) : Int))], (K, σ, n, e, s)) = _
  refine g_sald (by decide +kernel : decode (m_byt 282) 623 = .ok (.iaload, 1)) h0 h1 ?_
  exact g_inv (k := 1) (m' := 177) (np := 1) (as := [(2, ((r2 : Nat) : Int)), (0, (Z.2 (w32 (x4 + 1)).toNat).toInt)]) (by decide +kernel : decode (m_byt 282) 624 = .ok (.invokevirtual 147, 3)) (Or.inl ⟨rfl, rfl⟩) (by decide +kernel) (by decide +kernel) (by decide +kernel) (Nat.le_of_ble_eq_true rfl) rfl (Or.inr (g_rcv (by decide +kernel) h2))
theorem b_282_627 {Z : mZ} {l0 l1 l3 l4 l6 : mV} {s0 x5 : Int} {r2 : Nat} {K : Nat → mK} {σ : Nat → Nat → Int} {n e s : Nat} (h0 : q_ob K n r2 7) : m_run Z (282, 627, [l0, l1, (2, ((r2 : Nat) : Int)), l3, l4, (0, x5), l6], [(0, s0)], (K, σ, n, e, s)) = (m_cl Z 150 [(2, ((r2 : Nat) : Int))] (K, σ, n, e, s)).bind (m_aft (m_run Z) 282 630 [l0, l1, (2, ((r2 : Nat) : Int)), l3, l4, (0, x5), (0, s0)] []) := by
  refine g_istore (k := 6) (by decide +kernel : decode (m_byt 282) 627 = .ok (.istore 6, 2)) (Nat.le_of_ble_eq_true rfl) ?_
  show m_run Z (282, 629, [l0, l1, (2, ((r2 : Nat) : Int)), l3, l4, (0, x5), (0, s0)], [], (K, σ, n, e, s)) = _
  refine g_aload_n (k := 2) (v := (2, ((r2 : Nat) : Int))) (by decide +kernel : decode (m_byt 282) 629 = .ok (.aload_n 2, 1)) rfl (Or.inl rfl) ?_
  exact g_inv (k := 1) (m' := 150) (np := 0) (as := [(2, ((r2 : Nat) : Int))]) (by decide +kernel : decode (m_byt 282) 630 = .ok (.invokevirtual 125, 3)) (Or.inl ⟨rfl, rfl⟩) (by decide +kernel) (by decide +kernel) (by decide +kernel) (Nat.le_of_ble_eq_true rfl) rfl (Or.inr (g_rcv (by decide +kernel) h0))
theorem b_282_633 {Z : mZ} {l0 l1 l2 l3 l4 l6 : mV} {s0 x5 : Int} {h : mH} : m_run Z (282, 633, [l0, l1, l2, l3, l4, (0, x5), l6], [(0, s0)], h) = if w32 s0 = w32 x5 then m_run Z (282, 640, [l0, l1, l2, l3, l4, (0, x5), l6], [], h) else m_run Z (282, 638, [l0, l1, l2, l3, l4, (0, x5), l6], [], h) := by
  refine g_iload (k := 5) (x := x5) (by decide +kernel : decode (m_byt 282) 633 = .ok (.iload 5, 2)) rfl ?_
  exact g_brq (t := 640) (off := 5) (by decide +kernel : decode (m_byt 282) 635 = .ok (.if_icmp .eq 5, 3)) rfl rfl (by decide)
theorem b_282_638 {Z : mZ} {l0 l1 l2 l3 l4 l5 l6 : mV} {h : mH} : m_run Z (282, 638, [l0, l1, l2, l3, l4, l5, l6], [], h) = some (.inl (0, 0), h) := by
  refine g_base (by decide +kernel : decode (m_byt 282) 638 = .ok (.iconst 0, 1)) rfl rfl ?_
  show m_run Z (282, 639, [l0, l1, l2, l3, l4, l5, l6], [(0, 0)], h) = _
  exact g_zret (by decide +kernel : decode (m_byt 282) 639 = .ok (.ireturn, 1)) (by decide +kernel) (by decide)
theorem b_282_640 {Z : mZ} {l0 l1 l2 l3 l4 l6 : mV} {x5 : Int} {h : mH} : m_run Z (282, 640, [l0, l1, l2, l3, l4, (0, x5), l6], [], h) = if w32 x5 = 0 then m_run Z (282, 645, [l0, l1, l2, l3, l4, (0, x5), l6], [], h) else m_run Z (282, 657, [l0, l1, l2, l3, l4, (0, x5), l6], [], h) := by
  refine g_iload (k := 5) (x := x5) (by decide +kernel : decode (m_byt 282) 640 = .ok (.iload 5, 2)) rfl ?_
  exact g_brn (t := 657) (off := 15) (by decide +kernel : decode (m_byt 282) 642 = .ok (.ifCond .ne 15, 3)) rfl rfl (by decide)
theorem b_282_645 {Z : mZ} {l0 l1 l2 l4 l5 : mV} {x6 : Int} {r3 : Nat} {K : Nat → mK} {σ : Nat → Nat → Int} {n e s : Nat} (h0 : 0 ≤ w32 0) (h1 : w32 0 < (q_ln K r3 : Int)) (h2 : q_ak K n r3 3) : m_run Z (282, 645, [l0, l1, l2, (2, ((r3 : Nat) : Int)), l4, l5, (0, x6)], [], (K, σ, n, e, s)) = if w32 (l_cmp (σ r3 (w32 0).toNat) (w32 x6)) = 0 then m_run Z (282, 657, [l0, l1, l2, (2, ((r3 : Nat) : Int)), l4, l5, (0, x6)], [], (K, σ, n, e, s)) else m_run Z (282, 655, [l0, l1, l2, (2, ((r3 : Nat) : Int)), l4, l5, (0, x6)], [], (K, σ, n, e, s)) := by
  refine g_aload_n (k := 3) (v := (2, ((r3 : Nat) : Int))) (by decide +kernel : decode (m_byt 282) 645 = .ok (.aload_n 3, 1)) rfl (Or.inl rfl) ?_
  refine g_base (by decide +kernel : decode (m_byt 282) 646 = .ok (.iconst 0, 1)) rfl rfl ?_
  show m_run Z (282, 647, [l0, l1, l2, (2, ((r3 : Nat) : Int)), l4, l5, (0, x6)], [(0, 0), (2, ((r3 : Nat) : Int))], (K, σ, n, e, s)) = _
  refine g_lald (by decide +kernel : decode (m_byt 282) 647 = .ok (.laload, 1)) h2 h0 h1 ?_
  refine g_iload (k := 6) (x := x6) (by decide +kernel : decode (m_byt 282) 648 = .ok (.iload 6, 2)) rfl ?_
  refine g_base (by decide +kernel : decode (m_byt 282) 650 = .ok (.i2l, 1)) rfl rfl ?_
  show m_run Z (282, 651, [l0, l1, l2, (2, ((r3 : Nat) : Int)), l4, l5, (0, x6)], [(1, (w32 x6)), (1, (σ r3 (w32 0).toNat))], (K, σ, n, e, s)) = _
  refine g_base (by decide +kernel : decode (m_byt 282) 651 = .ok (.lcmp, 1)) rfl rfl ?_
  show m_run Z (282, 652, [l0, l1, l2, (2, ((r3 : Nat) : Int)), l4, l5, (0, x6)], [(0, (l_cmp (σ r3 (w32 0).toNat) (w32 x6)))], (K, σ, n, e, s)) = _
  exact g_brq (t := 657) (off := 5) (by decide +kernel : decode (m_byt 282) 652 = .ok (.ifCond .eq 5, 3)) rfl rfl (by decide)
theorem b_282_655 {Z : mZ} {l0 l1 l2 l3 l4 l5 l6 : mV} {h : mH} : m_run Z (282, 655, [l0, l1, l2, l3, l4, l5, l6], [], h) = some (.inl (0, 0), h) := by
  refine g_base (by decide +kernel : decode (m_byt 282) 655 = .ok (.iconst 0, 1)) rfl rfl ?_
  show m_run Z (282, 656, [l0, l1, l2, l3, l4, l5, l6], [(0, 0)], h) = _
  exact g_zret (by decide +kernel : decode (m_byt 282) 656 = .ok (.ireturn, 1)) (by decide +kernel) (by decide)
theorem b_282_657 {Z : mZ} {l0 l1 l2 l5 l6 : mV} {x4 : Int} {r3 : Nat} {h : mH} : m_run Z (282, 657, [l0, l1, l2, (2, ((r3 : Nat) : Int)), (0, x4), l5, l6], [], h) = m_run Z (282, 23, [l0, l1, l2, (2, ((r3 : Nat) : Int)), (0, x4 + 6), l5, l6], [], h) := by
  refine g_jmp (t := 2388) (by decide +kernel : decode (m_byt 282) 657 = .ok (.goto 1731, 3)) (by decide) ?_
  refine g_iinc (k := 4) (x := x4) (by decide +kernel : decode (m_byt 282) 2388 = .ok (.iinc 4 6, 3)) rfl (Nat.le_of_ble_eq_true rfl) ?_
  show m_run Z (282, 2391, [l0, l1, l2, (2, ((r3 : Nat) : Int)), (0, x4 + 6), l5, l6], [], h) = _
  refine g_jmp (t := 23) (by decide +kernel : decode (m_byt 282) 2391 = .ok (.goto (-2368), 3)) (by decide) ?_
  rfl
theorem b_282_660 {Z : mZ} {l2 l5 l6 : mV} {x0 x4 : Int} {r1 r3 : Nat} {h : mH} (h0 : 0 ≤ w32 (x4 + 1)) (h1 : w32 (x4 + 1) < (Z.1 : Int)) : m_run Z (282, 660, [(4, x0), (2, ((r1 : Nat) : Int)), l2, (2, ((r3 : Nat) : Int)), (0, x4), l5, l6], [], h) = (m_cl Z 258 [(2, ((r1 : Nat) : Int)), (0, (Z.2 (w32 (x4 + 1)).toNat).toInt), (2, ((r3 : Nat) : Int))] h).bind (m_aft (m_run Z) 282 668 [(4, x0), (2, ((r1 : Nat) : Int)), l2, (2, ((r3 : Nat) : Int)), (0, x4), l5, l6] []) := by
  refine g_aload_n (k := 1) (v := (2, ((r1 : Nat) : Int))) (by decide +kernel : decode (m_byt 282) 660 = .ok (.aload_n 1, 1)) rfl (Or.inl rfl) ?_
  refine g_aload_n (k := 0) (v := (4, x0)) (by decide +kernel : decode (m_byt 282) 661 = .ok (.aload_n 0, 1)) rfl (Or.inr (Or.inr rfl)) ?_
  refine g_iload (k := 4) (x := x4) (by decide +kernel : decode (m_byt 282) 662 = .ok (.iload 4, 2)) rfl ?_
  refine g_base (by decide +kernel : decode (m_byt 282) 664 = .ok (.iconst 1, 1)) rfl rfl ?_
  show m_run Z (282, 665, [(4, x0), (2, ((r1 : Nat) : Int)), l2, (2, ((r3 : Nat) : Int)), (0, x4), l5, l6], [(0, 1), (0, x4), (4, x0), (2, ((r1 : Nat) : Int))], h) = _
  refine g_base (by decide +kernel : decode (m_byt 282) 665 = .ok (.iadd, 1)) rfl rfl ?_
  show m_run Z (282, 666, [(4, x0), (2, ((r1 : Nat) : Int)), l2, (2, ((r3 : Nat) : Int)), (0, x4), l5, l6], [(0, (x4 + 1)), (4, x0), (2, ((r1 : Nat) : Int))], h) = _
  refine g_sald (by decide +kernel : decode (m_byt 282) 666 = .ok (.iaload, 1)) h0 h1 ?_
  refine g_aload_n (k := 3) (v := (2, ((r3 : Nat) : Int))) (by decide +kernel : decode (m_byt 282) 667 = .ok (.aload_n 3, 1)) rfl (Or.inl rfl) ?_
  exact g_inv (k := 0) (m' := 258) (np := 3) (as := [(2, ((r1 : Nat) : Int)), (0, (Z.2 (w32 (x4 + 1)).toNat).toInt), (2, ((r3 : Nat) : Int))]) (by decide +kernel : decode (m_byt 282) 668 = .ok (.invokestatic 148, 3)) (Or.inr (Or.inr ⟨rfl, rfl, by decide, by decide⟩)) (by decide +kernel) (by decide +kernel) (by decide +kernel) (Nat.le_of_ble_eq_true rfl) rfl (Or.inl rfl)
theorem b_282_671 {Z : mZ} {l1 l3 l5 l6 : mV} {s0 x4 x0 : Int} {r2 : Nat} {K : Nat → mK} {σ : Nat → Nat → Int} {n e s : Nat} (h0 : 0 ≤ w32 (x4 + 1)) (h1 : w32 (x4 + 1) < (Z.1 : Int)) (h2 : q_ob K n r2 7) : m_run Z (282, 671, [(4, x0), l1, (2, ((r2 : Nat) : Int)), l3, (0, x4), l5, l6], [(0, s0)], (K, σ, n, e, s)) = (m_cl Z 179 [(2, ((r2 : Nat) : Int)), (0, (Z.2 (w32 (x4 + 1)).toNat).toInt)] (K, σ, n, e, s)).bind (m_aft (m_run Z) 282 680 [(4, x0), l1, (2, ((r2 : Nat) : Int)), l3, (0, x4), (0, s0), l6] []) := by
  refine g_istore (k := 5) (by decide +kernel : decode (m_byt 282) 671 = .ok (.istore 5, 2)) (Nat.le_of_ble_eq_true rfl) ?_
  show m_run Z (282, 673, [(4, x0), l1, (2, ((r2 : Nat) : Int)), l3, (0, x4), (0, s0), l6], [], (K, σ, n, e, s)) = _
  refine g_aload_n (k := 2) (v := (2, ((r2 : Nat) : Int))) (by decide +kernel : decode (m_byt 282) 673 = .ok (.aload_n 2, 1)) rfl (Or.inl rfl) ?_
  refine g_aload_n (k := 0) (v := (4, x0)) (by decide +kernel : decode (m_byt 282) 674 = .ok (.aload_n 0, 1)) rfl (Or.inr (Or.inr rfl)) ?_
  refine g_iload (k := 4) (x := x4) (by decide +kernel : decode (m_byt 282) 675 = .ok (.iload 4, 2)) rfl ?_
  refine g_base (by decide +kernel : decode (m_byt 282) 677 = .ok (.iconst 1, 1)) rfl rfl ?_
  show m_run Z (282, 678, [(4, x0), l1, (2, ((r2 : Nat) : Int)), l3, (0, x4), (0, s0), l6], [(0, 1), (0, x4), (4, x0), (2, ((r2 : Nat) : Int))], (K, σ, n, e, s)) = _
  refine g_base (by decide +kernel : decode (m_byt 282) 678 = .ok (.iadd, 1)) rfl rfl ?_
  show m_run Z (282, 679, [(4, x0), l1, (2, ((r2 : Nat) : Int)), l3, (0, x4), (0, s0), l6], [(0, (x4 + 1)), (4, x0), (2, ((r2 : Nat) : Int))], (K, σ, n, e, s)) = _
  refine g_sald (by decide +kernel : decode (m_byt 282) 679 = .ok (.iaload, 1)) h0 h1 ?_
  exact g_inv (k := 1) (m' := 179) (np := 1) (as := [(2, ((r2 : Nat) : Int)), (0, (Z.2 (w32 (x4 + 1)).toNat).toInt)]) (by decide +kernel : decode (m_byt 282) 680 = .ok (.invokevirtual 150, 3)) (Or.inl ⟨rfl, rfl⟩) (by decide +kernel) (by decide +kernel) (by decide +kernel) (Nat.le_of_ble_eq_true rfl) rfl (Or.inr (g_rcv (by decide +kernel) h2))
theorem b_282_683 {Z : mZ} {l0 l1 l3 l4 l6 : mV} {s0 x5 : Int} {r2 : Nat} {K : Nat → mK} {σ : Nat → Nat → Int} {n e s : Nat} (h0 : q_ob K n r2 7) : m_run Z (282, 683, [l0, l1, (2, ((r2 : Nat) : Int)), l3, l4, (0, x5), l6], [(0, s0)], (K, σ, n, e, s)) = (m_cl Z 150 [(2, ((r2 : Nat) : Int))] (K, σ, n, e, s)).bind (m_aft (m_run Z) 282 686 [l0, l1, (2, ((r2 : Nat) : Int)), l3, l4, (0, x5), (0, s0)] []) := by
  refine g_istore (k := 6) (by decide +kernel : decode (m_byt 282) 683 = .ok (.istore 6, 2)) (Nat.le_of_ble_eq_true rfl) ?_
  show m_run Z (282, 685, [l0, l1, (2, ((r2 : Nat) : Int)), l3, l4, (0, x5), (0, s0)], [], (K, σ, n, e, s)) = _
  refine g_aload_n (k := 2) (v := (2, ((r2 : Nat) : Int))) (by decide +kernel : decode (m_byt 282) 685 = .ok (.aload_n 2, 1)) rfl (Or.inl rfl) ?_
  exact g_inv (k := 1) (m' := 150) (np := 0) (as := [(2, ((r2 : Nat) : Int))]) (by decide +kernel : decode (m_byt 282) 686 = .ok (.invokevirtual 125, 3)) (Or.inl ⟨rfl, rfl⟩) (by decide +kernel) (by decide +kernel) (by decide +kernel) (Nat.le_of_ble_eq_true rfl) rfl (Or.inr (g_rcv (by decide +kernel) h0))
theorem b_282_689 {Z : mZ} {l0 l1 l2 l3 l4 l6 : mV} {s0 x5 : Int} {h : mH} : m_run Z (282, 689, [l0, l1, l2, l3, l4, (0, x5), l6], [(0, s0)], h) = if w32 s0 = w32 x5 then m_run Z (282, 696, [l0, l1, l2, l3, l4, (0, x5), l6], [], h) else m_run Z (282, 694, [l0, l1, l2, l3, l4, (0, x5), l6], [], h) := by
  refine g_iload (k := 5) (x := x5) (by decide +kernel : decode (m_byt 282) 689 = .ok (.iload 5, 2)) rfl ?_
  exact g_brq (t := 696) (off := 5) (by decide +kernel : decode (m_byt 282) 691 = .ok (.if_icmp .eq 5, 3)) rfl rfl (by decide)
theorem b_282_694 {Z : mZ} {l0 l1 l2 l3 l4 l5 l6 : mV} {h : mH} : m_run Z (282, 694, [l0, l1, l2, l3, l4, l5, l6], [], h) = some (.inl (0, 0), h) := by
  refine g_base (by decide +kernel : decode (m_byt 282) 694 = .ok (.iconst 0, 1)) rfl rfl ?_
  show m_run Z (282, 695, [l0, l1, l2, l3, l4, l5, l6], [(0, 0)], h) = _
  exact g_zret (by decide +kernel : decode (m_byt 282) 695 = .ok (.ireturn, 1)) (by decide +kernel) (by decide)
theorem b_282_696 {Z : mZ} {l0 l1 l2 l3 l4 l6 : mV} {x5 : Int} {h : mH} : m_run Z (282, 696, [l0, l1, l2, l3, l4, (0, x5), l6], [], h) = if w32 x5 = 0 then m_run Z (282, 701, [l0, l1, l2, l3, l4, (0, x5), l6], [], h) else m_run Z (282, 713, [l0, l1, l2, l3, l4, (0, x5), l6], [], h) := by
  refine g_iload (k := 5) (x := x5) (by decide +kernel : decode (m_byt 282) 696 = .ok (.iload 5, 2)) rfl ?_
  exact g_brn (t := 713) (off := 15) (by decide +kernel : decode (m_byt 282) 698 = .ok (.ifCond .ne 15, 3)) rfl rfl (by decide)
theorem b_282_701 {Z : mZ} {l0 l1 l2 l4 l5 : mV} {x6 : Int} {r3 : Nat} {K : Nat → mK} {σ : Nat → Nat → Int} {n e s : Nat} (h0 : 0 ≤ w32 0) (h1 : w32 0 < (q_ln K r3 : Int)) (h2 : q_ak K n r3 3) : m_run Z (282, 701, [l0, l1, l2, (2, ((r3 : Nat) : Int)), l4, l5, (0, x6)], [], (K, σ, n, e, s)) = if w32 (l_cmp (σ r3 (w32 0).toNat) (w32 x6)) = 0 then m_run Z (282, 713, [l0, l1, l2, (2, ((r3 : Nat) : Int)), l4, l5, (0, x6)], [], (K, σ, n, e, s)) else m_run Z (282, 711, [l0, l1, l2, (2, ((r3 : Nat) : Int)), l4, l5, (0, x6)], [], (K, σ, n, e, s)) := by
  refine g_aload_n (k := 3) (v := (2, ((r3 : Nat) : Int))) (by decide +kernel : decode (m_byt 282) 701 = .ok (.aload_n 3, 1)) rfl (Or.inl rfl) ?_
  refine g_base (by decide +kernel : decode (m_byt 282) 702 = .ok (.iconst 0, 1)) rfl rfl ?_
  show m_run Z (282, 703, [l0, l1, l2, (2, ((r3 : Nat) : Int)), l4, l5, (0, x6)], [(0, 0), (2, ((r3 : Nat) : Int))], (K, σ, n, e, s)) = _
  refine g_lald (by decide +kernel : decode (m_byt 282) 703 = .ok (.laload, 1)) h2 h0 h1 ?_
  refine g_iload (k := 6) (x := x6) (by decide +kernel : decode (m_byt 282) 704 = .ok (.iload 6, 2)) rfl ?_
  refine g_base (by decide +kernel : decode (m_byt 282) 706 = .ok (.i2l, 1)) rfl rfl ?_
  show m_run Z (282, 707, [l0, l1, l2, (2, ((r3 : Nat) : Int)), l4, l5, (0, x6)], [(1, (w32 x6)), (1, (σ r3 (w32 0).toNat))], (K, σ, n, e, s)) = _
  refine g_base (by decide +kernel : decode (m_byt 282) 707 = .ok (.lcmp, 1)) rfl rfl ?_
  show m_run Z (282, 708, [l0, l1, l2, (2, ((r3 : Nat) : Int)), l4, l5, (0, x6)], [(0, (l_cmp (σ r3 (w32 0).toNat) (w32 x6)))], (K, σ, n, e, s)) = _
  exact g_brq (t := 713) (off := 5) (by decide +kernel : decode (m_byt 282) 708 = .ok (.ifCond .eq 5, 3)) rfl rfl (by decide)
theorem b_282_711 {Z : mZ} {l0 l1 l2 l3 l4 l5 l6 : mV} {h : mH} : m_run Z (282, 711, [l0, l1, l2, l3, l4, l5, l6], [], h) = some (.inl (0, 0), h) := by
  refine g_base (by decide +kernel : decode (m_byt 282) 711 = .ok (.iconst 0, 1)) rfl rfl ?_
  show m_run Z (282, 712, [l0, l1, l2, l3, l4, l5, l6], [(0, 0)], h) = _
  exact g_zret (by decide +kernel : decode (m_byt 282) 712 = .ok (.ireturn, 1)) (by decide +kernel) (by decide)
theorem b_282_713 {Z : mZ} {l0 l1 l2 l5 l6 : mV} {x4 : Int} {r3 : Nat} {h : mH} : m_run Z (282, 713, [l0, l1, l2, (2, ((r3 : Nat) : Int)), (0, x4), l5, l6], [], h) = m_run Z (282, 23, [l0, l1, l2, (2, ((r3 : Nat) : Int)), (0, x4 + 6), l5, l6], [], h) := by
  refine g_jmp (t := 2388) (by decide +kernel : decode (m_byt 282) 713 = .ok (.goto 1675, 3)) (by decide) ?_
  refine g_iinc (k := 4) (x := x4) (by decide +kernel : decode (m_byt 282) 2388 = .ok (.iinc 4 6, 3)) rfl (Nat.le_of_ble_eq_true rfl) ?_
  show m_run Z (282, 2391, [l0, l1, l2, (2, ((r3 : Nat) : Int)), (0, x4 + 6), l5, l6], [], h) = _
  refine g_jmp (t := 23) (by decide +kernel : decode (m_byt 282) 2391 = .ok (.goto (-2368), 3)) (by decide) ?_
  rfl
theorem b_282_716 {Z : mZ} {l2 l5 l6 : mV} {x0 x4 : Int} {r1 r3 : Nat} {h : mH} (h0 : 0 ≤ w32 (x4 + 1)) (h1 : w32 (x4 + 1) < (Z.1 : Int)) (h2 : 0 ≤ w32 (x4 + 2)) (h3 : w32 (x4 + 2) < (Z.1 : Int)) : m_run Z (282, 716, [(4, x0), (2, ((r1 : Nat) : Int)), l2, (2, ((r3 : Nat) : Int)), (0, x4), l5, l6], [], h) = (m_cl Z 259 [(2, ((r1 : Nat) : Int)), (0, (Z.2 (w32 (x4 + 1)).toNat).toInt), (0, (Z.2 (w32 (x4 + 2)).toNat).toInt), (2, ((r3 : Nat) : Int))] h).bind (m_aft (m_run Z) 282 730 [(4, x0), (2, ((r1 : Nat) : Int)), l2, (2, ((r3 : Nat) : Int)), (0, x4), l5, l6] []) := by
  refine g_aload_n (k := 1) (v := (2, ((r1 : Nat) : Int))) (by decide +kernel : decode (m_byt 282) 716 = .ok (.aload_n 1, 1)) rfl (Or.inl rfl) ?_
  refine g_aload_n (k := 0) (v := (4, x0)) (by decide +kernel : decode (m_byt 282) 717 = .ok (.aload_n 0, 1)) rfl (Or.inr (Or.inr rfl)) ?_
  refine g_iload (k := 4) (x := x4) (by decide +kernel : decode (m_byt 282) 718 = .ok (.iload 4, 2)) rfl ?_
  refine g_base (by decide +kernel : decode (m_byt 282) 720 = .ok (.iconst 1, 1)) rfl rfl ?_
  show m_run Z (282, 721, [(4, x0), (2, ((r1 : Nat) : Int)), l2, (2, ((r3 : Nat) : Int)), (0, x4), l5, l6], [(0, 1), (0, x4), (4, x0), (2, ((r1 : Nat) : Int))], h) = _
  refine g_base (by decide +kernel : decode (m_byt 282) 721 = .ok (.iadd, 1)) rfl rfl ?_
  show m_run Z (282, 722, [(4, x0), (2, ((r1 : Nat) : Int)), l2, (2, ((r3 : Nat) : Int)), (0, x4), l5, l6], [(0, (x4 + 1)), (4, x0), (2, ((r1 : Nat) : Int))], h) = _
  refine g_sald (by decide +kernel : decode (m_byt 282) 722 = .ok (.iaload, 1)) h0 h1 ?_
  refine g_aload_n (k := 0) (v := (4, x0)) (by decide +kernel : decode (m_byt 282) 723 = .ok (.aload_n 0, 1)) rfl (Or.inr (Or.inr rfl)) ?_
  refine g_iload (k := 4) (x := x4) (by decide +kernel : decode (m_byt 282) 724 = .ok (.iload 4, 2)) rfl ?_
  refine g_base (by decide +kernel : decode (m_byt 282) 726 = .ok (.iconst 2, 1)) rfl rfl ?_
  show m_run Z (282, 727, [(4, x0), (2, ((r1 : Nat) : Int)), l2, (2, ((r3 : Nat) : Int)), (0, x4), l5, l6], [(0, 2), (0, x4), (4, x0), (0, (Z.2 (w32 (x4 + 1)).toNat).toInt), (2, ((r1 : Nat) : Int))], h) = _
  refine g_base (by decide +kernel : decode (m_byt 282) 727 = .ok (.iadd, 1)) rfl rfl ?_
  show m_run Z (282, 728, [(4, x0), (2, ((r1 : Nat) : Int)), l2, (2, ((r3 : Nat) : Int)), (0, x4), l5, l6], [(0, (x4 + 2)), (4, x0), (0, (Z.2 (w32 (x4 + 1)).toNat).toInt), (2, ((r1 : Nat) : Int))], h) = _
  refine g_sald (by decide +kernel : decode (m_byt 282) 728 = .ok (.iaload, 1)) h2 h3 ?_
  refine g_aload_n (k := 3) (v := (2, ((r3 : Nat) : Int))) (by decide +kernel : decode (m_byt 282) 729 = .ok (.aload_n 3, 1)) rfl (Or.inl rfl) ?_
  exact g_inv (k := 0) (m' := 259) (np := 4) (as := [(2, ((r1 : Nat) : Int)), (0, (Z.2 (w32 (x4 + 1)).toNat).toInt), (0, (Z.2 (w32 (x4 + 2)).toNat).toInt), (2, ((r3 : Nat) : Int))]) (by decide +kernel : decode (m_byt 282) 730 = .ok (.invokestatic 151, 3)) (Or.inr (Or.inr ⟨rfl, rfl, by decide, by decide⟩)) (by decide +kernel) (by decide +kernel) (by decide +kernel) (Nat.le_of_ble_eq_true rfl) rfl (Or.inl rfl)
theorem b_282_733 {Z : mZ} {l1 l3 l5 l6 : mV} {s0 x4 x0 : Int} {r2 : Nat} {K : Nat → mK} {σ : Nat → Nat → Int} {n e s : Nat} (h0 : 0 ≤ w32 (x4 + 1)) (h1 : w32 (x4 + 1) < (Z.1 : Int)) (h2 : 0 ≤ w32 (x4 + 2)) (h3 : w32 (x4 + 2) < (Z.1 : Int)) (h4 : q_ob K n r2 7) : m_run Z (282, 733, [(4, x0), l1, (2, ((r2 : Nat) : Int)), l3, (0, x4), l5, l6], [(0, s0)], (K, σ, n, e, s)) = (m_cl Z 180 [(2, ((r2 : Nat) : Int)), (0, (Z.2 (w32 (x4 + 1)).toNat).toInt), (0, (Z.2 (w32 (x4 + 2)).toNat).toInt)] (K, σ, n, e, s)).bind (m_aft (m_run Z) 282 748 [(4, x0), l1, (2, ((r2 : Nat) : Int)), l3, (0, x4), (0, s0), l6] []) := by
  refine g_istore (k := 5) (by decide +kernel : decode (m_byt 282) 733 = .ok (.istore 5, 2)) (Nat.le_of_ble_eq_true rfl) ?_
  show m_run Z (282, 735, [(4, x0), l1, (2, ((r2 : Nat) : Int)), l3, (0, x4), (0, s0), l6], [], (K, σ, n, e, s)) = _
  refine g_aload_n (k := 2) (v := (2, ((r2 : Nat) : Int))) (by decide +kernel : decode (m_byt 282) 735 = .ok (.aload_n 2, 1)) rfl (Or.inl rfl) ?_
  refine g_aload_n (k := 0) (v := (4, x0)) (by decide +kernel : decode (m_byt 282) 736 = .ok (.aload_n 0, 1)) rfl (Or.inr (Or.inr rfl)) ?_
  refine g_iload (k := 4) (x := x4) (by decide +kernel : decode (m_byt 282) 737 = .ok (.iload 4, 2)) rfl ?_
  refine g_base (by decide +kernel : decode (m_byt 282) 739 = .ok (.iconst 1, 1)) rfl rfl ?_
  show m_run Z (282, 740, [(4, x0), l1, (2, ((r2 : Nat) : Int)), l3, (0, x4), (0, s0), l6], [(0, 1), (0, x4), (4, x0), (2, ((r2 : Nat) : Int))], (K, σ, n, e, s)) = _
  refine g_base (by decide +kernel : decode (m_byt 282) 740 = .ok (.iadd, 1)) rfl rfl ?_
  show m_run Z (282, 741, [(4, x0), l1, (2, ((r2 : Nat) : Int)), l3, (0, x4), (0, s0), l6], [(0, (x4 + 1)), (4, x0), (2, ((r2 : Nat) : Int))], (K, σ, n, e, s)) = _
  refine g_sald (by decide +kernel : decode (m_byt 282) 741 = .ok (.iaload, 1)) h0 h1 ?_
  refine g_aload_n (k := 0) (v := (4, x0)) (by decide +kernel : decode (m_byt 282) 742 = .ok (.aload_n 0, 1)) rfl (Or.inr (Or.inr rfl)) ?_
  refine g_iload (k := 4) (x := x4) (by decide +kernel : decode (m_byt 282) 743 = .ok (.iload 4, 2)) rfl ?_
  refine g_base (by decide +kernel : decode (m_byt 282) 745 = .ok (.iconst 2, 1)) rfl rfl ?_
  show m_run Z (282, 746, [(4, x0), l1, (2, ((r2 : Nat) : Int)), l3, (0, x4), (0, s0), l6], [(0, 2), (0, x4), (4, x0), (0, (Z.2 (w32 (x4 + 1)).toNat).toInt), (2, ((r2 : Nat) : Int))], (K, σ, n, e, s)) = _
  refine g_base (by decide +kernel : decode (m_byt 282) 746 = .ok (.iadd, 1)) rfl rfl ?_
  show m_run Z (282, 747, [(4, x0), l1, (2, ((r2 : Nat) : Int)), l3, (0, x4), (0, s0), l6], [(0, (x4 + 2)), (4, x0), (0, (Z.2 (w32 (x4 + 1)).toNat).toInt), (2, ((r2 : Nat) : Int))], (K, σ, n, e, s)) = _
  refine g_sald (by decide +kernel : decode (m_byt 282) 747 = .ok (.iaload, 1)) h2 h3 ?_
  exact g_inv (k := 1) (m' := 180) (np := 2) (as := [(2, ((r2 : Nat) : Int)), (0, (Z.2 (w32 (x4 + 1)).toNat).toInt), (0, (Z.2 (w32 (x4 + 2)).toNat).toInt)]) (by decide +kernel : decode (m_byt 282) 748 = .ok (.invokevirtual 153, 3)) (Or.inl ⟨rfl, rfl⟩) (by decide +kernel) (by decide +kernel) (by decide +kernel) (Nat.le_of_ble_eq_true rfl) rfl (Or.inr (g_rcv (by decide +kernel) h4))
theorem b_282_751 {Z : mZ} {l0 l1 l3 l4 l6 : mV} {s0 x5 : Int} {r2 : Nat} {K : Nat → mK} {σ : Nat → Nat → Int} {n e s : Nat} (h0 : q_ob K n r2 7) : m_run Z (282, 751, [l0, l1, (2, ((r2 : Nat) : Int)), l3, l4, (0, x5), l6], [(0, s0)], (K, σ, n, e, s)) = (m_cl Z 150 [(2, ((r2 : Nat) : Int))] (K, σ, n, e, s)).bind (m_aft (m_run Z) 282 754 [l0, l1, (2, ((r2 : Nat) : Int)), l3, l4, (0, x5), (0, s0)] []) := by
  refine g_istore (k := 6) (by decide +kernel : decode (m_byt 282) 751 = .ok (.istore 6, 2)) (Nat.le_of_ble_eq_true rfl) ?_
  show m_run Z (282, 753, [l0, l1, (2, ((r2 : Nat) : Int)), l3, l4, (0, x5), (0, s0)], [], (K, σ, n, e, s)) = _
  refine g_aload_n (k := 2) (v := (2, ((r2 : Nat) : Int))) (by decide +kernel : decode (m_byt 282) 753 = .ok (.aload_n 2, 1)) rfl (Or.inl rfl) ?_
  exact g_inv (k := 1) (m' := 150) (np := 0) (as := [(2, ((r2 : Nat) : Int))]) (by decide +kernel : decode (m_byt 282) 754 = .ok (.invokevirtual 125, 3)) (Or.inl ⟨rfl, rfl⟩) (by decide +kernel) (by decide +kernel) (by decide +kernel) (Nat.le_of_ble_eq_true rfl) rfl (Or.inr (g_rcv (by decide +kernel) h0))
theorem b_282_757 {Z : mZ} {l0 l1 l2 l3 l4 l6 : mV} {s0 x5 : Int} {h : mH} : m_run Z (282, 757, [l0, l1, l2, l3, l4, (0, x5), l6], [(0, s0)], h) = if w32 s0 = w32 x5 then m_run Z (282, 764, [l0, l1, l2, l3, l4, (0, x5), l6], [], h) else m_run Z (282, 762, [l0, l1, l2, l3, l4, (0, x5), l6], [], h) := by
  refine g_iload (k := 5) (x := x5) (by decide +kernel : decode (m_byt 282) 757 = .ok (.iload 5, 2)) rfl ?_
  exact g_brq (t := 764) (off := 5) (by decide +kernel : decode (m_byt 282) 759 = .ok (.if_icmp .eq 5, 3)) rfl rfl (by decide)
theorem b_282_762 {Z : mZ} {l0 l1 l2 l3 l4 l5 l6 : mV} {h : mH} : m_run Z (282, 762, [l0, l1, l2, l3, l4, l5, l6], [], h) = some (.inl (0, 0), h) := by
  refine g_base (by decide +kernel : decode (m_byt 282) 762 = .ok (.iconst 0, 1)) rfl rfl ?_
  show m_run Z (282, 763, [l0, l1, l2, l3, l4, l5, l6], [(0, 0)], h) = _
  exact g_zret (by decide +kernel : decode (m_byt 282) 763 = .ok (.ireturn, 1)) (by decide +kernel) (by decide)
theorem b_282_764 {Z : mZ} {l0 l1 l2 l3 l4 l6 : mV} {x5 : Int} {h : mH} : m_run Z (282, 764, [l0, l1, l2, l3, l4, (0, x5), l6], [], h) = if w32 x5 = 0 then m_run Z (282, 769, [l0, l1, l2, l3, l4, (0, x5), l6], [], h) else m_run Z (282, 781, [l0, l1, l2, l3, l4, (0, x5), l6], [], h) := by
  refine g_iload (k := 5) (x := x5) (by decide +kernel : decode (m_byt 282) 764 = .ok (.iload 5, 2)) rfl ?_
  exact g_brn (t := 781) (off := 15) (by decide +kernel : decode (m_byt 282) 766 = .ok (.ifCond .ne 15, 3)) rfl rfl (by decide)
theorem b_282_769 {Z : mZ} {l0 l1 l2 l4 l5 : mV} {x6 : Int} {r3 : Nat} {K : Nat → mK} {σ : Nat → Nat → Int} {n e s : Nat} (h0 : 0 ≤ w32 0) (h1 : w32 0 < (q_ln K r3 : Int)) (h2 : q_ak K n r3 3) : m_run Z (282, 769, [l0, l1, l2, (2, ((r3 : Nat) : Int)), l4, l5, (0, x6)], [], (K, σ, n, e, s)) = if w32 (l_cmp (σ r3 (w32 0).toNat) (w32 x6)) = 0 then m_run Z (282, 781, [l0, l1, l2, (2, ((r3 : Nat) : Int)), l4, l5, (0, x6)], [], (K, σ, n, e, s)) else m_run Z (282, 779, [l0, l1, l2, (2, ((r3 : Nat) : Int)), l4, l5, (0, x6)], [], (K, σ, n, e, s)) := by
  refine g_aload_n (k := 3) (v := (2, ((r3 : Nat) : Int))) (by decide +kernel : decode (m_byt 282) 769 = .ok (.aload_n 3, 1)) rfl (Or.inl rfl) ?_
  refine g_base (by decide +kernel : decode (m_byt 282) 770 = .ok (.iconst 0, 1)) rfl rfl ?_
  show m_run Z (282, 771, [l0, l1, l2, (2, ((r3 : Nat) : Int)), l4, l5, (0, x6)], [(0, 0), (2, ((r3 : Nat) : Int))], (K, σ, n, e, s)) = _
  refine g_lald (by decide +kernel : decode (m_byt 282) 771 = .ok (.laload, 1)) h2 h0 h1 ?_
  refine g_iload (k := 6) (x := x6) (by decide +kernel : decode (m_byt 282) 772 = .ok (.iload 6, 2)) rfl ?_
  refine g_base (by decide +kernel : decode (m_byt 282) 774 = .ok (.i2l, 1)) rfl rfl ?_
  show m_run Z (282, 775, [l0, l1, l2, (2, ((r3 : Nat) : Int)), l4, l5, (0, x6)], [(1, (w32 x6)), (1, (σ r3 (w32 0).toNat))], (K, σ, n, e, s)) = _
  refine g_base (by decide +kernel : decode (m_byt 282) 775 = .ok (.lcmp, 1)) rfl rfl ?_
  show m_run Z (282, 776, [l0, l1, l2, (2, ((r3 : Nat) : Int)), l4, l5, (0, x6)], [(0, (l_cmp (σ r3 (w32 0).toNat) (w32 x6)))], (K, σ, n, e, s)) = _
  exact g_brq (t := 781) (off := 5) (by decide +kernel : decode (m_byt 282) 776 = .ok (.ifCond .eq 5, 3)) rfl rfl (by decide)
theorem b_282_779 {Z : mZ} {l0 l1 l2 l3 l4 l5 l6 : mV} {h : mH} : m_run Z (282, 779, [l0, l1, l2, l3, l4, l5, l6], [], h) = some (.inl (0, 0), h) := by
  refine g_base (by decide +kernel : decode (m_byt 282) 779 = .ok (.iconst 0, 1)) rfl rfl ?_
  show m_run Z (282, 780, [l0, l1, l2, l3, l4, l5, l6], [(0, 0)], h) = _
  exact g_zret (by decide +kernel : decode (m_byt 282) 780 = .ok (.ireturn, 1)) (by decide +kernel) (by decide)
theorem b_282_781 {Z : mZ} {l0 l1 l2 l5 l6 : mV} {x4 : Int} {r3 : Nat} {h : mH} : m_run Z (282, 781, [l0, l1, l2, (2, ((r3 : Nat) : Int)), (0, x4), l5, l6], [], h) = m_run Z (282, 23, [l0, l1, l2, (2, ((r3 : Nat) : Int)), (0, x4 + 6), l5, l6], [], h) := by
  refine g_jmp (t := 2388) (by decide +kernel : decode (m_byt 282) 781 = .ok (.goto 1607, 3)) (by decide) ?_
  refine g_iinc (k := 4) (x := x4) (by decide +kernel : decode (m_byt 282) 2388 = .ok (.iinc 4 6, 3)) rfl (Nat.le_of_ble_eq_true rfl) ?_
  show m_run Z (282, 2391, [l0, l1, l2, (2, ((r3 : Nat) : Int)), (0, x4 + 6), l5, l6], [], h) = _
  refine g_jmp (t := 23) (by decide +kernel : decode (m_byt 282) 2391 = .ok (.goto (-2368), 3)) (by decide) ?_
  rfl
theorem b_282_784 {Z : mZ} {l2 l5 l6 : mV} {x0 x4 : Int} {r1 r3 : Nat} {h : mH} (h0 : 0 ≤ w32 (x4 + 1)) (h1 : w32 (x4 + 1) < (Z.1 : Int)) (h2 : 0 ≤ w32 (x4 + 2)) (h3 : w32 (x4 + 2) < (Z.1 : Int)) : m_run Z (282, 784, [(4, x0), (2, ((r1 : Nat) : Int)), l2, (2, ((r3 : Nat) : Int)), (0, x4), l5, l6], [], h) = (m_cl Z 260 [(2, ((r1 : Nat) : Int)), (0, (Z.2 (w32 (x4 + 1)).toNat).toInt), (0, (Z.2 (w32 (x4 + 2)).toNat).toInt), (2, ((r3 : Nat) : Int))] h).bind (m_aft (m_run Z) 282 798 [(4, x0), (2, ((r1 : Nat) : Int)), l2, (2, ((r3 : Nat) : Int)), (0, x4), l5, l6] []) := by
  refine g_aload_n (k := 1) (v := (2, ((r1 : Nat) : Int))) (by decide +kernel : decode (m_byt 282) 784 = .ok (.aload_n 1, 1)) rfl (Or.inl rfl) ?_
  refine g_aload_n (k := 0) (v := (4, x0)) (by decide +kernel : decode (m_byt 282) 785 = .ok (.aload_n 0, 1)) rfl (Or.inr (Or.inr rfl)) ?_
  refine g_iload (k := 4) (x := x4) (by decide +kernel : decode (m_byt 282) 786 = .ok (.iload 4, 2)) rfl ?_
  refine g_base (by decide +kernel : decode (m_byt 282) 788 = .ok (.iconst 1, 1)) rfl rfl ?_
  show m_run Z (282, 789, [(4, x0), (2, ((r1 : Nat) : Int)), l2, (2, ((r3 : Nat) : Int)), (0, x4), l5, l6], [(0, 1), (0, x4), (4, x0), (2, ((r1 : Nat) : Int))], h) = _
  refine g_base (by decide +kernel : decode (m_byt 282) 789 = .ok (.iadd, 1)) rfl rfl ?_
  show m_run Z (282, 790, [(4, x0), (2, ((r1 : Nat) : Int)), l2, (2, ((r3 : Nat) : Int)), (0, x4), l5, l6], [(0, (x4 + 1)), (4, x0), (2, ((r1 : Nat) : Int))], h) = _
  refine g_sald (by decide +kernel : decode (m_byt 282) 790 = .ok (.iaload, 1)) h0 h1 ?_
  refine g_aload_n (k := 0) (v := (4, x0)) (by decide +kernel : decode (m_byt 282) 791 = .ok (.aload_n 0, 1)) rfl (Or.inr (Or.inr rfl)) ?_
  refine g_iload (k := 4) (x := x4) (by decide +kernel : decode (m_byt 282) 792 = .ok (.iload 4, 2)) rfl ?_
  refine g_base (by decide +kernel : decode (m_byt 282) 794 = .ok (.iconst 2, 1)) rfl rfl ?_
  show m_run Z (282, 795, [(4, x0), (2, ((r1 : Nat) : Int)), l2, (2, ((r3 : Nat) : Int)), (0, x4), l5, l6], [(0, 2), (0, x4), (4, x0), (0, (Z.2 (w32 (x4 + 1)).toNat).toInt), (2, ((r1 : Nat) : Int))], h) = _
  refine g_base (by decide +kernel : decode (m_byt 282) 795 = .ok (.iadd, 1)) rfl rfl ?_
  show m_run Z (282, 796, [(4, x0), (2, ((r1 : Nat) : Int)), l2, (2, ((r3 : Nat) : Int)), (0, x4), l5, l6], [(0, (x4 + 2)), (4, x0), (0, (Z.2 (w32 (x4 + 1)).toNat).toInt), (2, ((r1 : Nat) : Int))], h) = _
  refine g_sald (by decide +kernel : decode (m_byt 282) 796 = .ok (.iaload, 1)) h2 h3 ?_
  refine g_aload_n (k := 3) (v := (2, ((r3 : Nat) : Int))) (by decide +kernel : decode (m_byt 282) 797 = .ok (.aload_n 3, 1)) rfl (Or.inl rfl) ?_
  exact g_inv (k := 0) (m' := 260) (np := 4) (as := [(2, ((r1 : Nat) : Int)), (0, (Z.2 (w32 (x4 + 1)).toNat).toInt), (0, (Z.2 (w32 (x4 + 2)).toNat).toInt), (2, ((r3 : Nat) : Int))]) (by decide +kernel : decode (m_byt 282) 798 = .ok (.invokestatic 154, 3)) (Or.inr (Or.inr ⟨rfl, rfl, by decide, by decide⟩)) (by decide +kernel) (by decide +kernel) (by decide +kernel) (Nat.le_of_ble_eq_true rfl) rfl (Or.inl rfl)
theorem b_282_801 {Z : mZ} {l1 l3 l5 l6 : mV} {s0 x4 x0 : Int} {r2 : Nat} {K : Nat → mK} {σ : Nat → Nat → Int} {n e s : Nat} (h0 : 0 ≤ w32 (x4 + 1)) (h1 : w32 (x4 + 1) < (Z.1 : Int)) (h2 : 0 ≤ w32 (x4 + 2)) (h3 : w32 (x4 + 2) < (Z.1 : Int)) (h4 : q_ob K n r2 7) : m_run Z (282, 801, [(4, x0), l1, (2, ((r2 : Nat) : Int)), l3, (0, x4), l5, l6], [(0, s0)], (K, σ, n, e, s)) = (m_cl Z 182 [(2, ((r2 : Nat) : Int)), (0, (Z.2 (w32 (x4 + 1)).toNat).toInt), (0, (Z.2 (w32 (x4 + 2)).toNat).toInt)] (K, σ, n, e, s)).bind (m_aft (m_run Z) 282 816 [(4, x0), l1, (2, ((r2 : Nat) : Int)), l3, (0, x4), (0, s0), l6] []) := by
  refine g_istore (k := 5) (by decide +kernel : decode (m_byt 282) 801 = .ok (.istore 5, 2)) (Nat.le_of_ble_eq_true rfl) ?_
  show m_run Z (282, 803, [(4, x0), l1, (2, ((r2 : Nat) : Int)), l3, (0, x4), (0, s0), l6], [], (K, σ, n, e, s)) = _
  refine g_aload_n (k := 2) (v := (2, ((r2 : Nat) : Int))) (by decide +kernel : decode (m_byt 282) 803 = .ok (.aload_n 2, 1)) rfl (Or.inl rfl) ?_
  refine g_aload_n (k := 0) (v := (4, x0)) (by decide +kernel : decode (m_byt 282) 804 = .ok (.aload_n 0, 1)) rfl (Or.inr (Or.inr rfl)) ?_
  refine g_iload (k := 4) (x := x4) (by decide +kernel : decode (m_byt 282) 805 = .ok (.iload 4, 2)) rfl ?_
  refine g_base (by decide +kernel : decode (m_byt 282) 807 = .ok (.iconst 1, 1)) rfl rfl ?_
  show m_run Z (282, 808, [(4, x0), l1, (2, ((r2 : Nat) : Int)), l3, (0, x4), (0, s0), l6], [(0, 1), (0, x4), (4, x0), (2, ((r2 : Nat) : Int))], (K, σ, n, e, s)) = _
  refine g_base (by decide +kernel : decode (m_byt 282) 808 = .ok (.iadd, 1)) rfl rfl ?_
  show m_run Z (282, 809, [(4, x0), l1, (2, ((r2 : Nat) : Int)), l3, (0, x4), (0, s0), l6], [(0, (x4 + 1)), (4, x0), (2, ((r2 : Nat) : Int))], (K, σ, n, e, s)) = _
  refine g_sald (by decide +kernel : decode (m_byt 282) 809 = .ok (.iaload, 1)) h0 h1 ?_
  refine g_aload_n (k := 0) (v := (4, x0)) (by decide +kernel : decode (m_byt 282) 810 = .ok (.aload_n 0, 1)) rfl (Or.inr (Or.inr rfl)) ?_
  refine g_iload (k := 4) (x := x4) (by decide +kernel : decode (m_byt 282) 811 = .ok (.iload 4, 2)) rfl ?_
  refine g_base (by decide +kernel : decode (m_byt 282) 813 = .ok (.iconst 2, 1)) rfl rfl ?_
  show m_run Z (282, 814, [(4, x0), l1, (2, ((r2 : Nat) : Int)), l3, (0, x4), (0, s0), l6], [(0, 2), (0, x4), (4, x0), (0, (Z.2 (w32 (x4 + 1)).toNat).toInt), (2, ((r2 : Nat) : Int))], (K, σ, n, e, s)) = _
  refine g_base (by decide +kernel : decode (m_byt 282) 814 = .ok (.iadd, 1)) rfl rfl ?_
  show m_run Z (282, 815, [(4, x0), l1, (2, ((r2 : Nat) : Int)), l3, (0, x4), (0, s0), l6], [(0, (x4 + 2)), (4, x0), (0, (Z.2 (w32 (x4 + 1)).toNat).toInt), (2, ((r2 : Nat) : Int))], (K, σ, n, e, s)) = _
  refine g_sald (by decide +kernel : decode (m_byt 282) 815 = .ok (.iaload, 1)) h2 h3 ?_
  exact g_inv (k := 1) (m' := 182) (np := 2) (as := [(2, ((r2 : Nat) : Int)), (0, (Z.2 (w32 (x4 + 1)).toNat).toInt), (0, (Z.2 (w32 (x4 + 2)).toNat).toInt)]) (by decide +kernel : decode (m_byt 282) 816 = .ok (.invokevirtual 156, 3)) (Or.inl ⟨rfl, rfl⟩) (by decide +kernel) (by decide +kernel) (by decide +kernel) (Nat.le_of_ble_eq_true rfl) rfl (Or.inr (g_rcv (by decide +kernel) h4))
theorem b_282_819 {Z : mZ} {l0 l1 l3 l4 l6 : mV} {s0 x5 : Int} {r2 : Nat} {K : Nat → mK} {σ : Nat → Nat → Int} {n e s : Nat} (h0 : q_ob K n r2 7) : m_run Z (282, 819, [l0, l1, (2, ((r2 : Nat) : Int)), l3, l4, (0, x5), l6], [(0, s0)], (K, σ, n, e, s)) = (m_cl Z 150 [(2, ((r2 : Nat) : Int))] (K, σ, n, e, s)).bind (m_aft (m_run Z) 282 822 [l0, l1, (2, ((r2 : Nat) : Int)), l3, l4, (0, x5), (0, s0)] []) := by
  refine g_istore (k := 6) (by decide +kernel : decode (m_byt 282) 819 = .ok (.istore 6, 2)) (Nat.le_of_ble_eq_true rfl) ?_
  show m_run Z (282, 821, [l0, l1, (2, ((r2 : Nat) : Int)), l3, l4, (0, x5), (0, s0)], [], (K, σ, n, e, s)) = _
  refine g_aload_n (k := 2) (v := (2, ((r2 : Nat) : Int))) (by decide +kernel : decode (m_byt 282) 821 = .ok (.aload_n 2, 1)) rfl (Or.inl rfl) ?_
  exact g_inv (k := 1) (m' := 150) (np := 0) (as := [(2, ((r2 : Nat) : Int))]) (by decide +kernel : decode (m_byt 282) 822 = .ok (.invokevirtual 125, 3)) (Or.inl ⟨rfl, rfl⟩) (by decide +kernel) (by decide +kernel) (by decide +kernel) (Nat.le_of_ble_eq_true rfl) rfl (Or.inr (g_rcv (by decide +kernel) h0))
theorem b_282_825 {Z : mZ} {l0 l1 l2 l3 l4 l6 : mV} {s0 x5 : Int} {h : mH} : m_run Z (282, 825, [l0, l1, l2, l3, l4, (0, x5), l6], [(0, s0)], h) = if w32 s0 = w32 x5 then m_run Z (282, 832, [l0, l1, l2, l3, l4, (0, x5), l6], [], h) else m_run Z (282, 830, [l0, l1, l2, l3, l4, (0, x5), l6], [], h) := by
  refine g_iload (k := 5) (x := x5) (by decide +kernel : decode (m_byt 282) 825 = .ok (.iload 5, 2)) rfl ?_
  exact g_brq (t := 832) (off := 5) (by decide +kernel : decode (m_byt 282) 827 = .ok (.if_icmp .eq 5, 3)) rfl rfl (by decide)
theorem b_282_830 {Z : mZ} {l0 l1 l2 l3 l4 l5 l6 : mV} {h : mH} : m_run Z (282, 830, [l0, l1, l2, l3, l4, l5, l6], [], h) = some (.inl (0, 0), h) := by
  refine g_base (by decide +kernel : decode (m_byt 282) 830 = .ok (.iconst 0, 1)) rfl rfl ?_
  show m_run Z (282, 831, [l0, l1, l2, l3, l4, l5, l6], [(0, 0)], h) = _
  exact g_zret (by decide +kernel : decode (m_byt 282) 831 = .ok (.ireturn, 1)) (by decide +kernel) (by decide)
theorem b_282_832 {Z : mZ} {l0 l1 l2 l3 l4 l6 : mV} {x5 : Int} {h : mH} : m_run Z (282, 832, [l0, l1, l2, l3, l4, (0, x5), l6], [], h) = if w32 x5 = 0 then m_run Z (282, 837, [l0, l1, l2, l3, l4, (0, x5), l6], [], h) else m_run Z (282, 849, [l0, l1, l2, l3, l4, (0, x5), l6], [], h) := by
  refine g_iload (k := 5) (x := x5) (by decide +kernel : decode (m_byt 282) 832 = .ok (.iload 5, 2)) rfl ?_
  exact g_brn (t := 849) (off := 15) (by decide +kernel : decode (m_byt 282) 834 = .ok (.ifCond .ne 15, 3)) rfl rfl (by decide)
theorem b_282_837 {Z : mZ} {l0 l1 l2 l4 l5 : mV} {x6 : Int} {r3 : Nat} {K : Nat → mK} {σ : Nat → Nat → Int} {n e s : Nat} (h0 : 0 ≤ w32 0) (h1 : w32 0 < (q_ln K r3 : Int)) (h2 : q_ak K n r3 3) : m_run Z (282, 837, [l0, l1, l2, (2, ((r3 : Nat) : Int)), l4, l5, (0, x6)], [], (K, σ, n, e, s)) = if w32 (l_cmp (σ r3 (w32 0).toNat) (w32 x6)) = 0 then m_run Z (282, 849, [l0, l1, l2, (2, ((r3 : Nat) : Int)), l4, l5, (0, x6)], [], (K, σ, n, e, s)) else m_run Z (282, 847, [l0, l1, l2, (2, ((r3 : Nat) : Int)), l4, l5, (0, x6)], [], (K, σ, n, e, s)) := by
  refine g_aload_n (k := 3) (v := (2, ((r3 : Nat) : Int))) (by decide +kernel : decode (m_byt 282) 837 = .ok (.aload_n 3, 1)) rfl (Or.inl rfl) ?_
  refine g_base (by decide +kernel : decode (m_byt 282) 838 = .ok (.iconst 0, 1)) rfl rfl ?_
  show m_run Z (282, 839, [l0, l1, l2, (2, ((r3 : Nat) : Int)), l4, l5, (0, x6)], [(0, 0), (2, ((r3 : Nat) : Int))], (K, σ, n, e, s)) = _
  refine g_lald (by decide +kernel : decode (m_byt 282) 839 = .ok (.laload, 1)) h2 h0 h1 ?_
  refine g_iload (k := 6) (x := x6) (by decide +kernel : decode (m_byt 282) 840 = .ok (.iload 6, 2)) rfl ?_
  refine g_base (by decide +kernel : decode (m_byt 282) 842 = .ok (.i2l, 1)) rfl rfl ?_
  show m_run Z (282, 843, [l0, l1, l2, (2, ((r3 : Nat) : Int)), l4, l5, (0, x6)], [(1, (w32 x6)), (1, (σ r3 (w32 0).toNat))], (K, σ, n, e, s)) = _
  refine g_base (by decide +kernel : decode (m_byt 282) 843 = .ok (.lcmp, 1)) rfl rfl ?_
  show m_run Z (282, 844, [l0, l1, l2, (2, ((r3 : Nat) : Int)), l4, l5, (0, x6)], [(0, (l_cmp (σ r3 (w32 0).toNat) (w32 x6)))], (K, σ, n, e, s)) = _
  exact g_brq (t := 849) (off := 5) (by decide +kernel : decode (m_byt 282) 844 = .ok (.ifCond .eq 5, 3)) rfl rfl (by decide)
theorem b_282_847 {Z : mZ} {l0 l1 l2 l3 l4 l5 l6 : mV} {h : mH} : m_run Z (282, 847, [l0, l1, l2, l3, l4, l5, l6], [], h) = some (.inl (0, 0), h) := by
  refine g_base (by decide +kernel : decode (m_byt 282) 847 = .ok (.iconst 0, 1)) rfl rfl ?_
  show m_run Z (282, 848, [l0, l1, l2, l3, l4, l5, l6], [(0, 0)], h) = _
  exact g_zret (by decide +kernel : decode (m_byt 282) 848 = .ok (.ireturn, 1)) (by decide +kernel) (by decide)
theorem b_282_849 {Z : mZ} {l0 l1 l2 l5 l6 : mV} {x4 : Int} {r3 : Nat} {h : mH} : m_run Z (282, 849, [l0, l1, l2, (2, ((r3 : Nat) : Int)), (0, x4), l5, l6], [], h) = m_run Z (282, 23, [l0, l1, l2, (2, ((r3 : Nat) : Int)), (0, x4 + 6), l5, l6], [], h) := by
  refine g_jmp (t := 2388) (by decide +kernel : decode (m_byt 282) 849 = .ok (.goto 1539, 3)) (by decide) ?_
  refine g_iinc (k := 4) (x := x4) (by decide +kernel : decode (m_byt 282) 2388 = .ok (.iinc 4 6, 3)) rfl (Nat.le_of_ble_eq_true rfl) ?_
  show m_run Z (282, 2391, [l0, l1, l2, (2, ((r3 : Nat) : Int)), (0, x4 + 6), l5, l6], [], h) = _
  refine g_jmp (t := 23) (by decide +kernel : decode (m_byt 282) 2391 = .ok (.goto (-2368), 3)) (by decide) ?_
  rfl
theorem b_282_852 {Z : mZ} {l2 l5 l6 : mV} {x0 x4 : Int} {r1 r3 : Nat} {h : mH} (h0 : 0 ≤ w32 (x4 + 1)) (h1 : w32 (x4 + 1) < (Z.1 : Int)) (h2 : 0 ≤ w32 (x4 + 2)) (h3 : w32 (x4 + 2) < (Z.1 : Int)) : m_run Z (282, 852, [(4, x0), (2, ((r1 : Nat) : Int)), l2, (2, ((r3 : Nat) : Int)), (0, x4), l5, l6], [], h) = (m_cl Z 261 [(2, ((r1 : Nat) : Int)), (0, (Z.2 (w32 (x4 + 1)).toNat).toInt), (0, (Z.2 (w32 (x4 + 2)).toNat).toInt), (2, ((r3 : Nat) : Int))] h).bind (m_aft (m_run Z) 282 866 [(4, x0), (2, ((r1 : Nat) : Int)), l2, (2, ((r3 : Nat) : Int)), (0, x4), l5, l6] []) := by
  refine g_aload_n (k := 1) (v := (2, ((r1 : Nat) : Int))) (by decide +kernel : decode (m_byt 282) 852 = .ok (.aload_n 1, 1)) rfl (Or.inl rfl) ?_
  refine g_aload_n (k := 0) (v := (4, x0)) (by decide +kernel : decode (m_byt 282) 853 = .ok (.aload_n 0, 1)) rfl (Or.inr (Or.inr rfl)) ?_
  refine g_iload (k := 4) (x := x4) (by decide +kernel : decode (m_byt 282) 854 = .ok (.iload 4, 2)) rfl ?_
  refine g_base (by decide +kernel : decode (m_byt 282) 856 = .ok (.iconst 1, 1)) rfl rfl ?_
  show m_run Z (282, 857, [(4, x0), (2, ((r1 : Nat) : Int)), l2, (2, ((r3 : Nat) : Int)), (0, x4), l5, l6], [(0, 1), (0, x4), (4, x0), (2, ((r1 : Nat) : Int))], h) = _
  refine g_base (by decide +kernel : decode (m_byt 282) 857 = .ok (.iadd, 1)) rfl rfl ?_
  show m_run Z (282, 858, [(4, x0), (2, ((r1 : Nat) : Int)), l2, (2, ((r3 : Nat) : Int)), (0, x4), l5, l6], [(0, (x4 + 1)), (4, x0), (2, ((r1 : Nat) : Int))], h) = _
  refine g_sald (by decide +kernel : decode (m_byt 282) 858 = .ok (.iaload, 1)) h0 h1 ?_
  refine g_aload_n (k := 0) (v := (4, x0)) (by decide +kernel : decode (m_byt 282) 859 = .ok (.aload_n 0, 1)) rfl (Or.inr (Or.inr rfl)) ?_
  refine g_iload (k := 4) (x := x4) (by decide +kernel : decode (m_byt 282) 860 = .ok (.iload 4, 2)) rfl ?_
  refine g_base (by decide +kernel : decode (m_byt 282) 862 = .ok (.iconst 2, 1)) rfl rfl ?_
  show m_run Z (282, 863, [(4, x0), (2, ((r1 : Nat) : Int)), l2, (2, ((r3 : Nat) : Int)), (0, x4), l5, l6], [(0, 2), (0, x4), (4, x0), (0, (Z.2 (w32 (x4 + 1)).toNat).toInt), (2, ((r1 : Nat) : Int))], h) = _
  refine g_base (by decide +kernel : decode (m_byt 282) 863 = .ok (.iadd, 1)) rfl rfl ?_
  show m_run Z (282, 864, [(4, x0), (2, ((r1 : Nat) : Int)), l2, (2, ((r3 : Nat) : Int)), (0, x4), l5, l6], [(0, (x4 + 2)), (4, x0), (0, (Z.2 (w32 (x4 + 1)).toNat).toInt), (2, ((r1 : Nat) : Int))], h) = _
  refine g_sald (by decide +kernel : decode (m_byt 282) 864 = .ok (.iaload, 1)) h2 h3 ?_
  refine g_aload_n (k := 3) (v := (2, ((r3 : Nat) : Int))) (by decide +kernel : decode (m_byt 282) 865 = .ok (.aload_n 3, 1)) rfl (Or.inl rfl) ?_
  exact g_inv (k := 0) (m' := 261) (np := 4) (as := [(2, ((r1 : Nat) : Int)), (0, (Z.2 (w32 (x4 + 1)).toNat).toInt), (0, (Z.2 (w32 (x4 + 2)).toNat).toInt), (2, ((r3 : Nat) : Int))]) (by decide +kernel : decode (m_byt 282) 866 = .ok (.invokestatic 157, 3)) (Or.inr (Or.inr ⟨rfl, rfl, by decide, by decide⟩)) (by decide +kernel) (by decide +kernel) (by decide +kernel) (Nat.le_of_ble_eq_true rfl) rfl (Or.inl rfl)
theorem b_282_869 {Z : mZ} {l1 l3 l5 l6 : mV} {s0 x4 x0 : Int} {r2 : Nat} {K : Nat → mK} {σ : Nat → Nat → Int} {n e s : Nat} (h0 : 0 ≤ w32 (x4 + 1)) (h1 : w32 (x4 + 1) < (Z.1 : Int)) (h2 : 0 ≤ w32 (x4 + 2)) (h3 : w32 (x4 + 2) < (Z.1 : Int)) (h4 : q_ob K n r2 7) : m_run Z (282, 869, [(4, x0), l1, (2, ((r2 : Nat) : Int)), l3, (0, x4), l5, l6], [(0, s0)], (K, σ, n, e, s)) = (m_cl Z 183 [(2, ((r2 : Nat) : Int)), (0, (Z.2 (w32 (x4 + 1)).toNat).toInt), (0, (Z.2 (w32 (x4 + 2)).toNat).toInt)] (K, σ, n, e, s)).bind (m_aft (m_run Z) 282 884 [(4, x0), l1, (2, ((r2 : Nat) : Int)), l3, (0, x4), (0, s0), l6] []) := by
  refine g_istore (k := 5) (by decide +kernel : decode (m_byt 282) 869 = .ok (.istore 5, 2)) (Nat.le_of_ble_eq_true rfl) ?_
  show m_run Z (282, 871, [(4, x0), l1, (2, ((r2 : Nat) : Int)), l3, (0, x4), (0, s0), l6], [], (K, σ, n, e, s)) = _
  refine g_aload_n (k := 2) (v := (2, ((r2 : Nat) : Int))) (by decide +kernel : decode (m_byt 282) 871 = .ok (.aload_n 2, 1)) rfl (Or.inl rfl) ?_
  refine g_aload_n (k := 0) (v := (4, x0)) (by decide +kernel : decode (m_byt 282) 872 = .ok (.aload_n 0, 1)) rfl (Or.inr (Or.inr rfl)) ?_
  refine g_iload (k := 4) (x := x4) (by decide +kernel : decode (m_byt 282) 873 = .ok (.iload 4, 2)) rfl ?_
  refine g_base (by decide +kernel : decode (m_byt 282) 875 = .ok (.iconst 1, 1)) rfl rfl ?_
  show m_run Z (282, 876, [(4, x0), l1, (2, ((r2 : Nat) : Int)), l3, (0, x4), (0, s0), l6], [(0, 1), (0, x4), (4, x0), (2, ((r2 : Nat) : Int))], (K, σ, n, e, s)) = _
  refine g_base (by decide +kernel : decode (m_byt 282) 876 = .ok (.iadd, 1)) rfl rfl ?_
  show m_run Z (282, 877, [(4, x0), l1, (2, ((r2 : Nat) : Int)), l3, (0, x4), (0, s0), l6], [(0, (x4 + 1)), (4, x0), (2, ((r2 : Nat) : Int))], (K, σ, n, e, s)) = _
  refine g_sald (by decide +kernel : decode (m_byt 282) 877 = .ok (.iaload, 1)) h0 h1 ?_
  refine g_aload_n (k := 0) (v := (4, x0)) (by decide +kernel : decode (m_byt 282) 878 = .ok (.aload_n 0, 1)) rfl (Or.inr (Or.inr rfl)) ?_
  refine g_iload (k := 4) (x := x4) (by decide +kernel : decode (m_byt 282) 879 = .ok (.iload 4, 2)) rfl ?_
  refine g_base (by decide +kernel : decode (m_byt 282) 881 = .ok (.iconst 2, 1)) rfl rfl ?_
  show m_run Z (282, 882, [(4, x0), l1, (2, ((r2 : Nat) : Int)), l3, (0, x4), (0, s0), l6], [(0, 2), (0, x4), (4, x0), (0, (Z.2 (w32 (x4 + 1)).toNat).toInt), (2, ((r2 : Nat) : Int))], (K, σ, n, e, s)) = _
  refine g_base (by decide +kernel : decode (m_byt 282) 882 = .ok (.iadd, 1)) rfl rfl ?_
  show m_run Z (282, 883, [(4, x0), l1, (2, ((r2 : Nat) : Int)), l3, (0, x4), (0, s0), l6], [(0, (x4 + 2)), (4, x0), (0, (Z.2 (w32 (x4 + 1)).toNat).toInt), (2, ((r2 : Nat) : Int))], (K, σ, n, e, s)) = _
  refine g_sald (by decide +kernel : decode (m_byt 282) 883 = .ok (.iaload, 1)) h2 h3 ?_
  exact g_inv (k := 1) (m' := 183) (np := 2) (as := [(2, ((r2 : Nat) : Int)), (0, (Z.2 (w32 (x4 + 1)).toNat).toInt), (0, (Z.2 (w32 (x4 + 2)).toNat).toInt)]) (by decide +kernel : decode (m_byt 282) 884 = .ok (.invokevirtual 159, 3)) (Or.inl ⟨rfl, rfl⟩) (by decide +kernel) (by decide +kernel) (by decide +kernel) (Nat.le_of_ble_eq_true rfl) rfl (Or.inr (g_rcv (by decide +kernel) h4))
theorem b_282_887 {Z : mZ} {l0 l1 l3 l4 l6 : mV} {s0 x5 : Int} {r2 : Nat} {K : Nat → mK} {σ : Nat → Nat → Int} {n e s : Nat} (h0 : q_ob K n r2 7) : m_run Z (282, 887, [l0, l1, (2, ((r2 : Nat) : Int)), l3, l4, (0, x5), l6], [(0, s0)], (K, σ, n, e, s)) = (m_cl Z 150 [(2, ((r2 : Nat) : Int))] (K, σ, n, e, s)).bind (m_aft (m_run Z) 282 890 [l0, l1, (2, ((r2 : Nat) : Int)), l3, l4, (0, x5), (0, s0)] []) := by
  refine g_istore (k := 6) (by decide +kernel : decode (m_byt 282) 887 = .ok (.istore 6, 2)) (Nat.le_of_ble_eq_true rfl) ?_
  show m_run Z (282, 889, [l0, l1, (2, ((r2 : Nat) : Int)), l3, l4, (0, x5), (0, s0)], [], (K, σ, n, e, s)) = _
  refine g_aload_n (k := 2) (v := (2, ((r2 : Nat) : Int))) (by decide +kernel : decode (m_byt 282) 889 = .ok (.aload_n 2, 1)) rfl (Or.inl rfl) ?_
  exact g_inv (k := 1) (m' := 150) (np := 0) (as := [(2, ((r2 : Nat) : Int))]) (by decide +kernel : decode (m_byt 282) 890 = .ok (.invokevirtual 125, 3)) (Or.inl ⟨rfl, rfl⟩) (by decide +kernel) (by decide +kernel) (by decide +kernel) (Nat.le_of_ble_eq_true rfl) rfl (Or.inr (g_rcv (by decide +kernel) h0))
theorem b_282_893 {Z : mZ} {l0 l1 l2 l3 l4 l6 : mV} {s0 x5 : Int} {h : mH} : m_run Z (282, 893, [l0, l1, l2, l3, l4, (0, x5), l6], [(0, s0)], h) = if w32 s0 = w32 x5 then m_run Z (282, 900, [l0, l1, l2, l3, l4, (0, x5), l6], [], h) else m_run Z (282, 898, [l0, l1, l2, l3, l4, (0, x5), l6], [], h) := by
  refine g_iload (k := 5) (x := x5) (by decide +kernel : decode (m_byt 282) 893 = .ok (.iload 5, 2)) rfl ?_
  exact g_brq (t := 900) (off := 5) (by decide +kernel : decode (m_byt 282) 895 = .ok (.if_icmp .eq 5, 3)) rfl rfl (by decide)
theorem b_282_898 {Z : mZ} {l0 l1 l2 l3 l4 l5 l6 : mV} {h : mH} : m_run Z (282, 898, [l0, l1, l2, l3, l4, l5, l6], [], h) = some (.inl (0, 0), h) := by
  refine g_base (by decide +kernel : decode (m_byt 282) 898 = .ok (.iconst 0, 1)) rfl rfl ?_
  show m_run Z (282, 899, [l0, l1, l2, l3, l4, l5, l6], [(0, 0)], h) = _
  exact g_zret (by decide +kernel : decode (m_byt 282) 899 = .ok (.ireturn, 1)) (by decide +kernel) (by decide)
theorem b_282_900 {Z : mZ} {l0 l1 l2 l3 l4 l6 : mV} {x5 : Int} {h : mH} : m_run Z (282, 900, [l0, l1, l2, l3, l4, (0, x5), l6], [], h) = if w32 x5 = 0 then m_run Z (282, 905, [l0, l1, l2, l3, l4, (0, x5), l6], [], h) else m_run Z (282, 917, [l0, l1, l2, l3, l4, (0, x5), l6], [], h) := by
  refine g_iload (k := 5) (x := x5) (by decide +kernel : decode (m_byt 282) 900 = .ok (.iload 5, 2)) rfl ?_
  exact g_brn (t := 917) (off := 15) (by decide +kernel : decode (m_byt 282) 902 = .ok (.ifCond .ne 15, 3)) rfl rfl (by decide)
theorem b_282_905 {Z : mZ} {l0 l1 l2 l4 l5 : mV} {x6 : Int} {r3 : Nat} {K : Nat → mK} {σ : Nat → Nat → Int} {n e s : Nat} (h0 : 0 ≤ w32 0) (h1 : w32 0 < (q_ln K r3 : Int)) (h2 : q_ak K n r3 3) : m_run Z (282, 905, [l0, l1, l2, (2, ((r3 : Nat) : Int)), l4, l5, (0, x6)], [], (K, σ, n, e, s)) = if w32 (l_cmp (σ r3 (w32 0).toNat) (w32 x6)) = 0 then m_run Z (282, 917, [l0, l1, l2, (2, ((r3 : Nat) : Int)), l4, l5, (0, x6)], [], (K, σ, n, e, s)) else m_run Z (282, 915, [l0, l1, l2, (2, ((r3 : Nat) : Int)), l4, l5, (0, x6)], [], (K, σ, n, e, s)) := by
  refine g_aload_n (k := 3) (v := (2, ((r3 : Nat) : Int))) (by decide +kernel : decode (m_byt 282) 905 = .ok (.aload_n 3, 1)) rfl (Or.inl rfl) ?_
  refine g_base (by decide +kernel : decode (m_byt 282) 906 = .ok (.iconst 0, 1)) rfl rfl ?_
  show m_run Z (282, 907, [l0, l1, l2, (2, ((r3 : Nat) : Int)), l4, l5, (0, x6)], [(0, 0), (2, ((r3 : Nat) : Int))], (K, σ, n, e, s)) = _
  refine g_lald (by decide +kernel : decode (m_byt 282) 907 = .ok (.laload, 1)) h2 h0 h1 ?_
  refine g_iload (k := 6) (x := x6) (by decide +kernel : decode (m_byt 282) 908 = .ok (.iload 6, 2)) rfl ?_
  refine g_base (by decide +kernel : decode (m_byt 282) 910 = .ok (.i2l, 1)) rfl rfl ?_
  show m_run Z (282, 911, [l0, l1, l2, (2, ((r3 : Nat) : Int)), l4, l5, (0, x6)], [(1, (w32 x6)), (1, (σ r3 (w32 0).toNat))], (K, σ, n, e, s)) = _
  refine g_base (by decide +kernel : decode (m_byt 282) 911 = .ok (.lcmp, 1)) rfl rfl ?_
  show m_run Z (282, 912, [l0, l1, l2, (2, ((r3 : Nat) : Int)), l4, l5, (0, x6)], [(0, (l_cmp (σ r3 (w32 0).toNat) (w32 x6)))], (K, σ, n, e, s)) = _
  exact g_brq (t := 917) (off := 5) (by decide +kernel : decode (m_byt 282) 912 = .ok (.ifCond .eq 5, 3)) rfl rfl (by decide)
theorem b_282_915 {Z : mZ} {l0 l1 l2 l3 l4 l5 l6 : mV} {h : mH} : m_run Z (282, 915, [l0, l1, l2, l3, l4, l5, l6], [], h) = some (.inl (0, 0), h) := by
  refine g_base (by decide +kernel : decode (m_byt 282) 915 = .ok (.iconst 0, 1)) rfl rfl ?_
  show m_run Z (282, 916, [l0, l1, l2, l3, l4, l5, l6], [(0, 0)], h) = _
  exact g_zret (by decide +kernel : decode (m_byt 282) 916 = .ok (.ireturn, 1)) (by decide +kernel) (by decide)
theorem b_282_917 {Z : mZ} {l0 l1 l2 l5 l6 : mV} {x4 : Int} {r3 : Nat} {h : mH} : m_run Z (282, 917, [l0, l1, l2, (2, ((r3 : Nat) : Int)), (0, x4), l5, l6], [], h) = m_run Z (282, 23, [l0, l1, l2, (2, ((r3 : Nat) : Int)), (0, x4 + 6), l5, l6], [], h) := by
  refine g_jmp (t := 2388) (by decide +kernel : decode (m_byt 282) 917 = .ok (.goto 1471, 3)) (by decide) ?_
  refine g_iinc (k := 4) (x := x4) (by decide +kernel : decode (m_byt 282) 2388 = .ok (.iinc 4 6, 3)) rfl (Nat.le_of_ble_eq_true rfl) ?_
  show m_run Z (282, 2391, [l0, l1, l2, (2, ((r3 : Nat) : Int)), (0, x4 + 6), l5, l6], [], h) = _
  refine g_jmp (t := 23) (by decide +kernel : decode (m_byt 282) 2391 = .ok (.goto (-2368), 3)) (by decide) ?_
  rfl
theorem b_282_920 {Z : mZ} {l2 l5 l6 : mV} {x0 x4 : Int} {r1 r3 : Nat} {h : mH} (h0 : 0 ≤ w32 (x4 + 1)) (h1 : w32 (x4 + 1) < (Z.1 : Int)) (h2 : 0 ≤ w32 (x4 + 2)) (h3 : w32 (x4 + 2) < (Z.1 : Int)) : m_run Z (282, 920, [(4, x0), (2, ((r1 : Nat) : Int)), l2, (2, ((r3 : Nat) : Int)), (0, x4), l5, l6], [], h) = (m_cl Z 262 [(2, ((r1 : Nat) : Int)), (0, (Z.2 (w32 (x4 + 1)).toNat).toInt), (0, (Z.2 (w32 (x4 + 2)).toNat).toInt), (2, ((r3 : Nat) : Int))] h).bind (m_aft (m_run Z) 282 934 [(4, x0), (2, ((r1 : Nat) : Int)), l2, (2, ((r3 : Nat) : Int)), (0, x4), l5, l6] []) := by
  refine g_aload_n (k := 1) (v := (2, ((r1 : Nat) : Int))) (by decide +kernel : decode (m_byt 282) 920 = .ok (.aload_n 1, 1)) rfl (Or.inl rfl) ?_
  refine g_aload_n (k := 0) (v := (4, x0)) (by decide +kernel : decode (m_byt 282) 921 = .ok (.aload_n 0, 1)) rfl (Or.inr (Or.inr rfl)) ?_
  refine g_iload (k := 4) (x := x4) (by decide +kernel : decode (m_byt 282) 922 = .ok (.iload 4, 2)) rfl ?_
  refine g_base (by decide +kernel : decode (m_byt 282) 924 = .ok (.iconst 1, 1)) rfl rfl ?_
  show m_run Z (282, 925, [(4, x0), (2, ((r1 : Nat) : Int)), l2, (2, ((r3 : Nat) : Int)), (0, x4), l5, l6], [(0, 1), (0, x4), (4, x0), (2, ((r1 : Nat) : Int))], h) = _
  refine g_base (by decide +kernel : decode (m_byt 282) 925 = .ok (.iadd, 1)) rfl rfl ?_
  show m_run Z (282, 926, [(4, x0), (2, ((r1 : Nat) : Int)), l2, (2, ((r3 : Nat) : Int)), (0, x4), l5, l6], [(0, (x4 + 1)), (4, x0), (2, ((r1 : Nat) : Int))], h) = _
  refine g_sald (by decide +kernel : decode (m_byt 282) 926 = .ok (.iaload, 1)) h0 h1 ?_
  refine g_aload_n (k := 0) (v := (4, x0)) (by decide +kernel : decode (m_byt 282) 927 = .ok (.aload_n 0, 1)) rfl (Or.inr (Or.inr rfl)) ?_
  refine g_iload (k := 4) (x := x4) (by decide +kernel : decode (m_byt 282) 928 = .ok (.iload 4, 2)) rfl ?_
  refine g_base (by decide +kernel : decode (m_byt 282) 930 = .ok (.iconst 2, 1)) rfl rfl ?_
  show m_run Z (282, 931, [(4, x0), (2, ((r1 : Nat) : Int)), l2, (2, ((r3 : Nat) : Int)), (0, x4), l5, l6], [(0, 2), (0, x4), (4, x0), (0, (Z.2 (w32 (x4 + 1)).toNat).toInt), (2, ((r1 : Nat) : Int))], h) = _
  refine g_base (by decide +kernel : decode (m_byt 282) 931 = .ok (.iadd, 1)) rfl rfl ?_
  show m_run Z (282, 932, [(4, x0), (2, ((r1 : Nat) : Int)), l2, (2, ((r3 : Nat) : Int)), (0, x4), l5, l6], [(0, (x4 + 2)), (4, x0), (0, (Z.2 (w32 (x4 + 1)).toNat).toInt), (2, ((r1 : Nat) : Int))], h) = _
  refine g_sald (by decide +kernel : decode (m_byt 282) 932 = .ok (.iaload, 1)) h2 h3 ?_
  refine g_aload_n (k := 3) (v := (2, ((r3 : Nat) : Int))) (by decide +kernel : decode (m_byt 282) 933 = .ok (.aload_n 3, 1)) rfl (Or.inl rfl) ?_
  exact g_inv (k := 0) (m' := 262) (np := 4) (as := [(2, ((r1 : Nat) : Int)), (0, (Z.2 (w32 (x4 + 1)).toNat).toInt), (0, (Z.2 (w32 (x4 + 2)).toNat).toInt), (2, ((r3 : Nat) : Int))]) (by decide +kernel : decode (m_byt 282) 934 = .ok (.invokestatic 160, 3)) (Or.inr (Or.inr ⟨rfl, rfl, by decide, by decide⟩)) (by decide +kernel) (by decide +kernel) (by decide +kernel) (Nat.le_of_ble_eq_true rfl) rfl (Or.inl rfl)
theorem b_282_937 {Z : mZ} {l1 l3 l5 l6 : mV} {s0 x4 x0 : Int} {r2 : Nat} {K : Nat → mK} {σ : Nat → Nat → Int} {n e s : Nat} (h0 : 0 ≤ w32 (x4 + 1)) (h1 : w32 (x4 + 1) < (Z.1 : Int)) (h2 : 0 ≤ w32 (x4 + 2)) (h3 : w32 (x4 + 2) < (Z.1 : Int)) (h4 : q_ob K n r2 7) : m_run Z (282, 937, [(4, x0), l1, (2, ((r2 : Nat) : Int)), l3, (0, x4), l5, l6], [(0, s0)], (K, σ, n, e, s)) = (m_cl Z 187 [(2, ((r2 : Nat) : Int)), (0, (Z.2 (w32 (x4 + 1)).toNat).toInt), (0, (Z.2 (w32 (x4 + 2)).toNat).toInt)] (K, σ, n, e, s)).bind (m_aft (m_run Z) 282 952 [(4, x0), l1, (2, ((r2 : Nat) : Int)), l3, (0, x4), (0, s0), l6] []) := by
  refine g_istore (k := 5) (by decide +kernel : decode (m_byt 282) 937 = .ok (.istore 5, 2)) (Nat.le_of_ble_eq_true rfl) ?_
  show m_run Z (282, 939, [(4, x0), l1, (2, ((r2 : Nat) : Int)), l3, (0, x4), (0, s0), l6], [], (K, σ, n, e, s)) = _
  refine g_aload_n (k := 2) (v := (2, ((r2 : Nat) : Int))) (by decide +kernel : decode (m_byt 282) 939 = .ok (.aload_n 2, 1)) rfl (Or.inl rfl) ?_
  refine g_aload_n (k := 0) (v := (4, x0)) (by decide +kernel : decode (m_byt 282) 940 = .ok (.aload_n 0, 1)) rfl (Or.inr (Or.inr rfl)) ?_
  refine g_iload (k := 4) (x := x4) (by decide +kernel : decode (m_byt 282) 941 = .ok (.iload 4, 2)) rfl ?_
  refine g_base (by decide +kernel : decode (m_byt 282) 943 = .ok (.iconst 1, 1)) rfl rfl ?_
  show m_run Z (282, 944, [(4, x0), l1, (2, ((r2 : Nat) : Int)), l3, (0, x4), (0, s0), l6], [(0, 1), (0, x4), (4, x0), (2, ((r2 : Nat) : Int))], (K, σ, n, e, s)) = _
  refine g_base (by decide +kernel : decode (m_byt 282) 944 = .ok (.iadd, 1)) rfl rfl ?_
  show m_run Z (282, 945, [(4, x0), l1, (2, ((r2 : Nat) : Int)), l3, (0, x4), (0, s0), l6], [(0, (x4 + 1)), (4, x0), (2, ((r2 : Nat) : Int))], (K, σ, n, e, s)) = _
  refine g_sald (by decide +kernel : decode (m_byt 282) 945 = .ok (.iaload, 1)) h0 h1 ?_
  refine g_aload_n (k := 0) (v := (4, x0)) (by decide +kernel : decode (m_byt 282) 946 = .ok (.aload_n 0, 1)) rfl (Or.inr (Or.inr rfl)) ?_
  refine g_iload (k := 4) (x := x4) (by decide +kernel : decode (m_byt 282) 947 = .ok (.iload 4, 2)) rfl ?_
  refine g_base (by decide +kernel : decode (m_byt 282) 949 = .ok (.iconst 2, 1)) rfl rfl ?_
  show m_run Z (282, 950, [(4, x0), l1, (2, ((r2 : Nat) : Int)), l3, (0, x4), (0, s0), l6], [(0, 2), (0, x4), (4, x0), (0, (Z.2 (w32 (x4 + 1)).toNat).toInt), (2, ((r2 : Nat) : Int))], (K, σ, n, e, s)) = _
  refine g_base (by decide +kernel : decode (m_byt 282) 950 = .ok (.iadd, 1)) rfl rfl ?_
  show m_run Z (282, 951, [(4, x0), l1, (2, ((r2 : Nat) : Int)), l3, (0, x4), (0, s0), l6], [(0, (x4 + 2)), (4, x0), (0, (Z.2 (w32 (x4 + 1)).toNat).toInt), (2, ((r2 : Nat) : Int))], (K, σ, n, e, s)) = _
  refine g_sald (by decide +kernel : decode (m_byt 282) 951 = .ok (.iaload, 1)) h2 h3 ?_
  exact g_inv (k := 1) (m' := 187) (np := 2) (as := [(2, ((r2 : Nat) : Int)), (0, (Z.2 (w32 (x4 + 1)).toNat).toInt), (0, (Z.2 (w32 (x4 + 2)).toNat).toInt)]) (by decide +kernel : decode (m_byt 282) 952 = .ok (.invokevirtual 162, 3)) (Or.inl ⟨rfl, rfl⟩) (by decide +kernel) (by decide +kernel) (by decide +kernel) (Nat.le_of_ble_eq_true rfl) rfl (Or.inr (g_rcv (by decide +kernel) h4))
theorem b_282_955 {Z : mZ} {l0 l1 l3 l4 l6 : mV} {s0 x5 : Int} {r2 : Nat} {K : Nat → mK} {σ : Nat → Nat → Int} {n e s : Nat} (h0 : q_ob K n r2 7) : m_run Z (282, 955, [l0, l1, (2, ((r2 : Nat) : Int)), l3, l4, (0, x5), l6], [(0, s0)], (K, σ, n, e, s)) = (m_cl Z 150 [(2, ((r2 : Nat) : Int))] (K, σ, n, e, s)).bind (m_aft (m_run Z) 282 958 [l0, l1, (2, ((r2 : Nat) : Int)), l3, l4, (0, x5), (0, s0)] []) := by
  refine g_istore (k := 6) (by decide +kernel : decode (m_byt 282) 955 = .ok (.istore 6, 2)) (Nat.le_of_ble_eq_true rfl) ?_
  show m_run Z (282, 957, [l0, l1, (2, ((r2 : Nat) : Int)), l3, l4, (0, x5), (0, s0)], [], (K, σ, n, e, s)) = _
  refine g_aload_n (k := 2) (v := (2, ((r2 : Nat) : Int))) (by decide +kernel : decode (m_byt 282) 957 = .ok (.aload_n 2, 1)) rfl (Or.inl rfl) ?_
  exact g_inv (k := 1) (m' := 150) (np := 0) (as := [(2, ((r2 : Nat) : Int))]) (by decide +kernel : decode (m_byt 282) 958 = .ok (.invokevirtual 125, 3)) (Or.inl ⟨rfl, rfl⟩) (by decide +kernel) (by decide +kernel) (by decide +kernel) (Nat.le_of_ble_eq_true rfl) rfl (Or.inr (g_rcv (by decide +kernel) h0))
theorem b_282_961 {Z : mZ} {l0 l1 l2 l3 l4 l6 : mV} {s0 x5 : Int} {h : mH} : m_run Z (282, 961, [l0, l1, l2, l3, l4, (0, x5), l6], [(0, s0)], h) = if w32 s0 = w32 x5 then m_run Z (282, 968, [l0, l1, l2, l3, l4, (0, x5), l6], [], h) else m_run Z (282, 966, [l0, l1, l2, l3, l4, (0, x5), l6], [], h) := by
  refine g_iload (k := 5) (x := x5) (by decide +kernel : decode (m_byt 282) 961 = .ok (.iload 5, 2)) rfl ?_
  exact g_brq (t := 968) (off := 5) (by decide +kernel : decode (m_byt 282) 963 = .ok (.if_icmp .eq 5, 3)) rfl rfl (by decide)
theorem b_282_966 {Z : mZ} {l0 l1 l2 l3 l4 l5 l6 : mV} {h : mH} : m_run Z (282, 966, [l0, l1, l2, l3, l4, l5, l6], [], h) = some (.inl (0, 0), h) := by
  refine g_base (by decide +kernel : decode (m_byt 282) 966 = .ok (.iconst 0, 1)) rfl rfl ?_
  show m_run Z (282, 967, [l0, l1, l2, l3, l4, l5, l6], [(0, 0)], h) = _
  exact g_zret (by decide +kernel : decode (m_byt 282) 967 = .ok (.ireturn, 1)) (by decide +kernel) (by decide)
theorem b_282_968 {Z : mZ} {l0 l1 l2 l3 l4 l6 : mV} {x5 : Int} {h : mH} : m_run Z (282, 968, [l0, l1, l2, l3, l4, (0, x5), l6], [], h) = if w32 x5 = 0 then m_run Z (282, 973, [l0, l1, l2, l3, l4, (0, x5), l6], [], h) else m_run Z (282, 985, [l0, l1, l2, l3, l4, (0, x5), l6], [], h) := by
  refine g_iload (k := 5) (x := x5) (by decide +kernel : decode (m_byt 282) 968 = .ok (.iload 5, 2)) rfl ?_
  exact g_brn (t := 985) (off := 15) (by decide +kernel : decode (m_byt 282) 970 = .ok (.ifCond .ne 15, 3)) rfl rfl (by decide)
theorem b_282_973 {Z : mZ} {l0 l1 l2 l4 l5 : mV} {x6 : Int} {r3 : Nat} {K : Nat → mK} {σ : Nat → Nat → Int} {n e s : Nat} (h0 : 0 ≤ w32 0) (h1 : w32 0 < (q_ln K r3 : Int)) (h2 : q_ak K n r3 3) : m_run Z (282, 973, [l0, l1, l2, (2, ((r3 : Nat) : Int)), l4, l5, (0, x6)], [], (K, σ, n, e, s)) = if w32 (l_cmp (σ r3 (w32 0).toNat) (w32 x6)) = 0 then m_run Z (282, 985, [l0, l1, l2, (2, ((r3 : Nat) : Int)), l4, l5, (0, x6)], [], (K, σ, n, e, s)) else m_run Z (282, 983, [l0, l1, l2, (2, ((r3 : Nat) : Int)), l4, l5, (0, x6)], [], (K, σ, n, e, s)) := by
  refine g_aload_n (k := 3) (v := (2, ((r3 : Nat) : Int))) (by decide +kernel : decode (m_byt 282) 973 = .ok (.aload_n 3, 1)) rfl (Or.inl rfl) ?_
  refine g_base (by decide +kernel : decode (m_byt 282) 974 = .ok (.iconst 0, 1)) rfl rfl ?_
  show m_run Z (282, 975, [l0, l1, l2, (2, ((r3 : Nat) : Int)), l4, l5, (0, x6)], [(0, 0), (2, ((r3 : Nat) : Int))], (K, σ, n, e, s)) = _
  refine g_lald (by decide +kernel : decode (m_byt 282) 975 = .ok (.laload, 1)) h2 h0 h1 ?_
  refine g_iload (k := 6) (x := x6) (by decide +kernel : decode (m_byt 282) 976 = .ok (.iload 6, 2)) rfl ?_
  refine g_base (by decide +kernel : decode (m_byt 282) 978 = .ok (.i2l, 1)) rfl rfl ?_
  show m_run Z (282, 979, [l0, l1, l2, (2, ((r3 : Nat) : Int)), l4, l5, (0, x6)], [(1, (w32 x6)), (1, (σ r3 (w32 0).toNat))], (K, σ, n, e, s)) = _
  refine g_base (by decide +kernel : decode (m_byt 282) 979 = .ok (.lcmp, 1)) rfl rfl ?_
  show m_run Z (282, 980, [l0, l1, l2, (2, ((r3 : Nat) : Int)), l4, l5, (0, x6)], [(0, (l_cmp (σ r3 (w32 0).toNat) (w32 x6)))], (K, σ, n, e, s)) = _
  exact g_brq (t := 985) (off := 5) (by decide +kernel : decode (m_byt 282) 980 = .ok (.ifCond .eq 5, 3)) rfl rfl (by decide)
theorem b_282_983 {Z : mZ} {l0 l1 l2 l3 l4 l5 l6 : mV} {h : mH} : m_run Z (282, 983, [l0, l1, l2, l3, l4, l5, l6], [], h) = some (.inl (0, 0), h) := by
  refine g_base (by decide +kernel : decode (m_byt 282) 983 = .ok (.iconst 0, 1)) rfl rfl ?_
  show m_run Z (282, 984, [l0, l1, l2, l3, l4, l5, l6], [(0, 0)], h) = _
  exact g_zret (by decide +kernel : decode (m_byt 282) 984 = .ok (.ireturn, 1)) (by decide +kernel) (by decide)
theorem b_282_985 {Z : mZ} {l0 l1 l2 l5 l6 : mV} {x4 : Int} {r3 : Nat} {h : mH} : m_run Z (282, 985, [l0, l1, l2, (2, ((r3 : Nat) : Int)), (0, x4), l5, l6], [], h) = m_run Z (282, 23, [l0, l1, l2, (2, ((r3 : Nat) : Int)), (0, x4 + 6), l5, l6], [], h) := by
  refine g_jmp (t := 2388) (by decide +kernel : decode (m_byt 282) 985 = .ok (.goto 1403, 3)) (by decide) ?_
  refine g_iinc (k := 4) (x := x4) (by decide +kernel : decode (m_byt 282) 2388 = .ok (.iinc 4 6, 3)) rfl (Nat.le_of_ble_eq_true rfl) ?_
  show m_run Z (282, 2391, [l0, l1, l2, (2, ((r3 : Nat) : Int)), (0, x4 + 6), l5, l6], [], h) = _
  refine g_jmp (t := 23) (by decide +kernel : decode (m_byt 282) 2391 = .ok (.goto (-2368), 3)) (by decide) ?_
  rfl
theorem b_282_988 {Z : mZ} {l2 l5 l6 : mV} {x0 x4 : Int} {r1 r3 : Nat} {h : mH} (h0 : 0 ≤ w32 (x4 + 1)) (h1 : w32 (x4 + 1) < (Z.1 : Int)) (h2 : 0 ≤ w32 (x4 + 2)) (h3 : w32 (x4 + 2) < (Z.1 : Int)) : m_run Z (282, 988, [(4, x0), (2, ((r1 : Nat) : Int)), l2, (2, ((r3 : Nat) : Int)), (0, x4), l5, l6], [], h) = (m_cl Z 263 [(2, ((r1 : Nat) : Int)), (0, (Z.2 (w32 (x4 + 1)).toNat).toInt), (0, (Z.2 (w32 (x4 + 2)).toNat).toInt), (2, ((r3 : Nat) : Int))] h).bind (m_aft (m_run Z) 282 1002 [(4, x0), (2, ((r1 : Nat) : Int)), l2, (2, ((r3 : Nat) : Int)), (0, x4), l5, l6] []) := by
  refine g_aload_n (k := 1) (v := (2, ((r1 : Nat) : Int))) (by decide +kernel : decode (m_byt 282) 988 = .ok (.aload_n 1, 1)) rfl (Or.inl rfl) ?_
  refine g_aload_n (k := 0) (v := (4, x0)) (by decide +kernel : decode (m_byt 282) 989 = .ok (.aload_n 0, 1)) rfl (Or.inr (Or.inr rfl)) ?_
  refine g_iload (k := 4) (x := x4) (by decide +kernel : decode (m_byt 282) 990 = .ok (.iload 4, 2)) rfl ?_
  refine g_base (by decide +kernel : decode (m_byt 282) 992 = .ok (.iconst 1, 1)) rfl rfl ?_
  show m_run Z (282, 993, [(4, x0), (2, ((r1 : Nat) : Int)), l2, (2, ((r3 : Nat) : Int)), (0, x4), l5, l6], [(0, 1), (0, x4), (4, x0), (2, ((r1 : Nat) : Int))], h) = _
  refine g_base (by decide +kernel : decode (m_byt 282) 993 = .ok (.iadd, 1)) rfl rfl ?_
  show m_run Z (282, 994, [(4, x0), (2, ((r1 : Nat) : Int)), l2, (2, ((r3 : Nat) : Int)), (0, x4), l5, l6], [(0, (x4 + 1)), (4, x0), (2, ((r1 : Nat) : Int))], h) = _
  refine g_sald (by decide +kernel : decode (m_byt 282) 994 = .ok (.iaload, 1)) h0 h1 ?_
  refine g_aload_n (k := 0) (v := (4, x0)) (by decide +kernel : decode (m_byt 282) 995 = .ok (.aload_n 0, 1)) rfl (Or.inr (Or.inr rfl)) ?_
  refine g_iload (k := 4) (x := x4) (by decide +kernel : decode (m_byt 282) 996 = .ok (.iload 4, 2)) rfl ?_
  refine g_base (by decide +kernel : decode (m_byt 282) 998 = .ok (.iconst 2, 1)) rfl rfl ?_
  show m_run Z (282, 999, [(4, x0), (2, ((r1 : Nat) : Int)), l2, (2, ((r3 : Nat) : Int)), (0, x4), l5, l6], [(0, 2), (0, x4), (4, x0), (0, (Z.2 (w32 (x4 + 1)).toNat).toInt), (2, ((r1 : Nat) : Int))], h) = _
  refine g_base (by decide +kernel : decode (m_byt 282) 999 = .ok (.iadd, 1)) rfl rfl ?_
  show m_run Z (282, 1000, [(4, x0), (2, ((r1 : Nat) : Int)), l2, (2, ((r3 : Nat) : Int)), (0, x4), l5, l6], [(0, (x4 + 2)), (4, x0), (0, (Z.2 (w32 (x4 + 1)).toNat).toInt), (2, ((r1 : Nat) : Int))], h) = _
  refine g_sald (by decide +kernel : decode (m_byt 282) 1000 = .ok (.iaload, 1)) h2 h3 ?_
  refine g_aload_n (k := 3) (v := (2, ((r3 : Nat) : Int))) (by decide +kernel : decode (m_byt 282) 1001 = .ok (.aload_n 3, 1)) rfl (Or.inl rfl) ?_
  exact g_inv (k := 0) (m' := 263) (np := 4) (as := [(2, ((r1 : Nat) : Int)), (0, (Z.2 (w32 (x4 + 1)).toNat).toInt), (0, (Z.2 (w32 (x4 + 2)).toNat).toInt), (2, ((r3 : Nat) : Int))]) (by decide +kernel : decode (m_byt 282) 1002 = .ok (.invokestatic 163, 3)) (Or.inr (Or.inr ⟨rfl, rfl, by decide, by decide⟩)) (by decide +kernel) (by decide +kernel) (by decide +kernel) (Nat.le_of_ble_eq_true rfl) rfl (Or.inl rfl)
theorem b_282_1005 {Z : mZ} {l1 l3 l5 l6 : mV} {s0 x4 x0 : Int} {r2 : Nat} {K : Nat → mK} {σ : Nat → Nat → Int} {n e s : Nat} (h0 : 0 ≤ w32 (x4 + 1)) (h1 : w32 (x4 + 1) < (Z.1 : Int)) (h2 : 0 ≤ w32 (x4 + 2)) (h3 : w32 (x4 + 2) < (Z.1 : Int)) (h4 : q_ob K n r2 7) : m_run Z (282, 1005, [(4, x0), l1, (2, ((r2 : Nat) : Int)), l3, (0, x4), l5, l6], [(0, s0)], (K, σ, n, e, s)) = (m_cl Z 188 [(2, ((r2 : Nat) : Int)), (0, (Z.2 (w32 (x4 + 1)).toNat).toInt), (0, (Z.2 (w32 (x4 + 2)).toNat).toInt)] (K, σ, n, e, s)).bind (m_aft (m_run Z) 282 1020 [(4, x0), l1, (2, ((r2 : Nat) : Int)), l3, (0, x4), (0, s0), l6] []) := by
  refine g_istore (k := 5) (by decide +kernel : decode (m_byt 282) 1005 = .ok (.istore 5, 2)) (Nat.le_of_ble_eq_true rfl) ?_
  show m_run Z (282, 1007, [(4, x0), l1, (2, ((r2 : Nat) : Int)), l3, (0, x4), (0, s0), l6], [], (K, σ, n, e, s)) = _
  refine g_aload_n (k := 2) (v := (2, ((r2 : Nat) : Int))) (by decide +kernel : decode (m_byt 282) 1007 = .ok (.aload_n 2, 1)) rfl (Or.inl rfl) ?_
  refine g_aload_n (k := 0) (v := (4, x0)) (by decide +kernel : decode (m_byt 282) 1008 = .ok (.aload_n 0, 1)) rfl (Or.inr (Or.inr rfl)) ?_
  refine g_iload (k := 4) (x := x4) (by decide +kernel : decode (m_byt 282) 1009 = .ok (.iload 4, 2)) rfl ?_
  refine g_base (by decide +kernel : decode (m_byt 282) 1011 = .ok (.iconst 1, 1)) rfl rfl ?_
  show m_run Z (282, 1012, [(4, x0), l1, (2, ((r2 : Nat) : Int)), l3, (0, x4), (0, s0), l6], [(0, 1), (0, x4), (4, x0), (2, ((r2 : Nat) : Int))], (K, σ, n, e, s)) = _
  refine g_base (by decide +kernel : decode (m_byt 282) 1012 = .ok (.iadd, 1)) rfl rfl ?_
  show m_run Z (282, 1013, [(4, x0), l1, (2, ((r2 : Nat) : Int)), l3, (0, x4), (0, s0), l6], [(0, (x4 + 1)), (4, x0), (2, ((r2 : Nat) : Int))], (K, σ, n, e, s)) = _
  refine g_sald (by decide +kernel : decode (m_byt 282) 1013 = .ok (.iaload, 1)) h0 h1 ?_
  refine g_aload_n (k := 0) (v := (4, x0)) (by decide +kernel : decode (m_byt 282) 1014 = .ok (.aload_n 0, 1)) rfl (Or.inr (Or.inr rfl)) ?_
  refine g_iload (k := 4) (x := x4) (by decide +kernel : decode (m_byt 282) 1015 = .ok (.iload 4, 2)) rfl ?_
  refine g_base (by decide +kernel : decode (m_byt 282) 1017 = .ok (.iconst 2, 1)) rfl rfl ?_
  show m_run Z (282, 1018, [(4, x0), l1, (2, ((r2 : Nat) : Int)), l3, (0, x4), (0, s0), l6], [(0, 2), (0, x4), (4, x0), (0, (Z.2 (w32 (x4 + 1)).toNat).toInt), (2, ((r2 : Nat) : Int))], (K, σ, n, e, s)) = _
  refine g_base (by decide +kernel : decode (m_byt 282) 1018 = .ok (.iadd, 1)) rfl rfl ?_
  show m_run Z (282, 1019, [(4, x0), l1, (2, ((r2 : Nat) : Int)), l3, (0, x4), (0, s0), l6], [(0, (x4 + 2)), (4, x0), (0, (Z.2 (w32 (x4 + 1)).toNat).toInt), (2, ((r2 : Nat) : Int))], (K, σ, n, e, s)) = _
  refine g_sald (by decide +kernel : decode (m_byt 282) 1019 = .ok (.iaload, 1)) h2 h3 ?_
  exact g_inv (k := 1) (m' := 188) (np := 2) (as := [(2, ((r2 : Nat) : Int)), (0, (Z.2 (w32 (x4 + 1)).toNat).toInt), (0, (Z.2 (w32 (x4 + 2)).toNat).toInt)]) (by decide +kernel : decode (m_byt 282) 1020 = .ok (.invokevirtual 165, 3)) (Or.inl ⟨rfl, rfl⟩) (by decide +kernel) (by decide +kernel) (by decide +kernel) (Nat.le_of_ble_eq_true rfl) rfl (Or.inr (g_rcv (by decide +kernel) h4))
theorem b_282_1023 {Z : mZ} {l0 l1 l3 l4 l6 : mV} {s0 x5 : Int} {r2 : Nat} {K : Nat → mK} {σ : Nat → Nat → Int} {n e s : Nat} (h0 : q_ob K n r2 7) : m_run Z (282, 1023, [l0, l1, (2, ((r2 : Nat) : Int)), l3, l4, (0, x5), l6], [(0, s0)], (K, σ, n, e, s)) = (m_cl Z 150 [(2, ((r2 : Nat) : Int))] (K, σ, n, e, s)).bind (m_aft (m_run Z) 282 1026 [l0, l1, (2, ((r2 : Nat) : Int)), l3, l4, (0, x5), (0, s0)] []) := by
  refine g_istore (k := 6) (by decide +kernel : decode (m_byt 282) 1023 = .ok (.istore 6, 2)) (Nat.le_of_ble_eq_true rfl) ?_
  show m_run Z (282, 1025, [l0, l1, (2, ((r2 : Nat) : Int)), l3, l4, (0, x5), (0, s0)], [], (K, σ, n, e, s)) = _
  refine g_aload_n (k := 2) (v := (2, ((r2 : Nat) : Int))) (by decide +kernel : decode (m_byt 282) 1025 = .ok (.aload_n 2, 1)) rfl (Or.inl rfl) ?_
  exact g_inv (k := 1) (m' := 150) (np := 0) (as := [(2, ((r2 : Nat) : Int))]) (by decide +kernel : decode (m_byt 282) 1026 = .ok (.invokevirtual 125, 3)) (Or.inl ⟨rfl, rfl⟩) (by decide +kernel) (by decide +kernel) (by decide +kernel) (Nat.le_of_ble_eq_true rfl) rfl (Or.inr (g_rcv (by decide +kernel) h0))
theorem b_282_1029 {Z : mZ} {l0 l1 l2 l3 l4 l6 : mV} {s0 x5 : Int} {h : mH} : m_run Z (282, 1029, [l0, l1, l2, l3, l4, (0, x5), l6], [(0, s0)], h) = if w32 s0 = w32 x5 then m_run Z (282, 1036, [l0, l1, l2, l3, l4, (0, x5), l6], [], h) else m_run Z (282, 1034, [l0, l1, l2, l3, l4, (0, x5), l6], [], h) := by
  refine g_iload (k := 5) (x := x5) (by decide +kernel : decode (m_byt 282) 1029 = .ok (.iload 5, 2)) rfl ?_
  exact g_brq (t := 1036) (off := 5) (by decide +kernel : decode (m_byt 282) 1031 = .ok (.if_icmp .eq 5, 3)) rfl rfl (by decide)
theorem b_282_1034 {Z : mZ} {l0 l1 l2 l3 l4 l5 l6 : mV} {h : mH} : m_run Z (282, 1034, [l0, l1, l2, l3, l4, l5, l6], [], h) = some (.inl (0, 0), h) := by
  refine g_base (by decide +kernel : decode (m_byt 282) 1034 = .ok (.iconst 0, 1)) rfl rfl ?_
  show m_run Z (282, 1035, [l0, l1, l2, l3, l4, l5, l6], [(0, 0)], h) = _
  exact g_zret (by decide +kernel : decode (m_byt 282) 1035 = .ok (.ireturn, 1)) (by decide +kernel) (by decide)
theorem b_282_1036 {Z : mZ} {l0 l1 l2 l3 l4 l6 : mV} {x5 : Int} {h : mH} : m_run Z (282, 1036, [l0, l1, l2, l3, l4, (0, x5), l6], [], h) = if w32 x5 = 0 then m_run Z (282, 1041, [l0, l1, l2, l3, l4, (0, x5), l6], [], h) else m_run Z (282, 1053, [l0, l1, l2, l3, l4, (0, x5), l6], [], h) := by
  refine g_iload (k := 5) (x := x5) (by decide +kernel : decode (m_byt 282) 1036 = .ok (.iload 5, 2)) rfl ?_
  exact g_brn (t := 1053) (off := 15) (by decide +kernel : decode (m_byt 282) 1038 = .ok (.ifCond .ne 15, 3)) rfl rfl (by decide)
theorem b_282_1041 {Z : mZ} {l0 l1 l2 l4 l5 : mV} {x6 : Int} {r3 : Nat} {K : Nat → mK} {σ : Nat → Nat → Int} {n e s : Nat} (h0 : 0 ≤ w32 0) (h1 : w32 0 < (q_ln K r3 : Int)) (h2 : q_ak K n r3 3) : m_run Z (282, 1041, [l0, l1, l2, (2, ((r3 : Nat) : Int)), l4, l5, (0, x6)], [], (K, σ, n, e, s)) = if w32 (l_cmp (σ r3 (w32 0).toNat) (w32 x6)) = 0 then m_run Z (282, 1053, [l0, l1, l2, (2, ((r3 : Nat) : Int)), l4, l5, (0, x6)], [], (K, σ, n, e, s)) else m_run Z (282, 1051, [l0, l1, l2, (2, ((r3 : Nat) : Int)), l4, l5, (0, x6)], [], (K, σ, n, e, s)) := by
  refine g_aload_n (k := 3) (v := (2, ((r3 : Nat) : Int))) (by decide +kernel : decode (m_byt 282) 1041 = .ok (.aload_n 3, 1)) rfl (Or.inl rfl) ?_
  refine g_base (by decide +kernel : decode (m_byt 282) 1042 = .ok (.iconst 0, 1)) rfl rfl ?_
  show m_run Z (282, 1043, [l0, l1, l2, (2, ((r3 : Nat) : Int)), l4, l5, (0, x6)], [(0, 0), (2, ((r3 : Nat) : Int))], (K, σ, n, e, s)) = _
  refine g_lald (by decide +kernel : decode (m_byt 282) 1043 = .ok (.laload, 1)) h2 h0 h1 ?_
  refine g_iload (k := 6) (x := x6) (by decide +kernel : decode (m_byt 282) 1044 = .ok (.iload 6, 2)) rfl ?_
  refine g_base (by decide +kernel : decode (m_byt 282) 1046 = .ok (.i2l, 1)) rfl rfl ?_
  show m_run Z (282, 1047, [l0, l1, l2, (2, ((r3 : Nat) : Int)), l4, l5, (0, x6)], [(1, (w32 x6)), (1, (σ r3 (w32 0).toNat))], (K, σ, n, e, s)) = _
  refine g_base (by decide +kernel : decode (m_byt 282) 1047 = .ok (.lcmp, 1)) rfl rfl ?_
  show m_run Z (282, 1048, [l0, l1, l2, (2, ((r3 : Nat) : Int)), l4, l5, (0, x6)], [(0, (l_cmp (σ r3 (w32 0).toNat) (w32 x6)))], (K, σ, n, e, s)) = _
  exact g_brq (t := 1053) (off := 5) (by decide +kernel : decode (m_byt 282) 1048 = .ok (.ifCond .eq 5, 3)) rfl rfl (by decide)
theorem b_282_1051 {Z : mZ} {l0 l1 l2 l3 l4 l5 l6 : mV} {h : mH} : m_run Z (282, 1051, [l0, l1, l2, l3, l4, l5, l6], [], h) = some (.inl (0, 0), h) := by
  refine g_base (by decide +kernel : decode (m_byt 282) 1051 = .ok (.iconst 0, 1)) rfl rfl ?_
  show m_run Z (282, 1052, [l0, l1, l2, l3, l4, l5, l6], [(0, 0)], h) = _
  exact g_zret (by decide +kernel : decode (m_byt 282) 1052 = .ok (.ireturn, 1)) (by decide +kernel) (by decide)
theorem b_282_1053 {Z : mZ} {l0 l1 l2 l5 l6 : mV} {x4 : Int} {r3 : Nat} {h : mH} : m_run Z (282, 1053, [l0, l1, l2, (2, ((r3 : Nat) : Int)), (0, x4), l5, l6], [], h) = m_run Z (282, 23, [l0, l1, l2, (2, ((r3 : Nat) : Int)), (0, x4 + 6), l5, l6], [], h) := by
  refine g_jmp (t := 2388) (by decide +kernel : decode (m_byt 282) 1053 = .ok (.goto 1335, 3)) (by decide) ?_
  refine g_iinc (k := 4) (x := x4) (by decide +kernel : decode (m_byt 282) 2388 = .ok (.iinc 4 6, 3)) rfl (Nat.le_of_ble_eq_true rfl) ?_
  show m_run Z (282, 2391, [l0, l1, l2, (2, ((r3 : Nat) : Int)), (0, x4 + 6), l5, l6], [], h) = _
  refine g_jmp (t := 23) (by decide +kernel : decode (m_byt 282) 2391 = .ok (.goto (-2368), 3)) (by decide) ?_
  rfl
theorem b_282_1056 {Z : mZ} {l0 l2 l3 l4 l5 l6 : mV} {r1 : Nat} {K : Nat → mK} {σ : Nat → Nat → Int} {n e s : Nat} (h0 : q_ob K n r1 6) : m_run Z (282, 1056, [l0, (2, ((r1 : Nat) : Int)), l2, l3, l4, l5, l6], [], (K, σ, n, e, s)) = (m_cl Z 108 [(2, ((r1 : Nat) : Int))] (K, σ, n, e, s)).bind (m_aft (m_run Z) 282 1057 [l0, (2, ((r1 : Nat) : Int)), l2, l3, l4, l5, l6] []) := by
  refine g_aload_n (k := 1) (v := (2, ((r1 : Nat) : Int))) (by decide +kernel : decode (m_byt 282) 1056 = .ok (.aload_n 1, 1)) rfl (Or.inl rfl) ?_
  exact g_inv (k := 1) (m' := 108) (np := 0) (as := [(2, ((r1 : Nat) : Int))]) (by decide +kernel : decode (m_byt 282) 1057 = .ok (.invokevirtual 166, 3)) (Or.inl ⟨rfl, rfl⟩) (by decide +kernel) (by decide +kernel) (by decide +kernel) (Nat.le_of_ble_eq_true rfl) rfl (Or.inr (g_rcv (by decide +kernel) h0))
theorem b_282_1060 {Z : mZ} {l0 l1 l3 l4 l5 l6 : mV} {s0 : Int} {r2 : Nat} {K : Nat → mK} {σ : Nat → Nat → Int} {n e s : Nat} (h0 : q_ob K n r2 7) : m_run Z (282, 1060, [l0, l1, (2, ((r2 : Nat) : Int)), l3, l4, l5, l6], [(0, s0)], (K, σ, n, e, s)) = (m_cl Z 189 [(2, ((r2 : Nat) : Int))] (K, σ, n, e, s)).bind (m_aft (m_run Z) 282 1061 [l0, l1, (2, ((r2 : Nat) : Int)), l3, l4, l5, l6] [(0, s0)]) := by
  refine g_aload_n (k := 2) (v := (2, ((r2 : Nat) : Int))) (by decide +kernel : decode (m_byt 282) 1060 = .ok (.aload_n 2, 1)) rfl (Or.inl rfl) ?_
  exact g_inv (k := 1) (m' := 189) (np := 0) (as := [(2, ((r2 : Nat) : Int))]) (by decide +kernel : decode (m_byt 282) 1061 = .ok (.invokevirtual 169, 3)) (Or.inl ⟨rfl, rfl⟩) (by decide +kernel) (by decide +kernel) (by decide +kernel) (Nat.le_of_ble_eq_true rfl) rfl (Or.inr (g_rcv (by decide +kernel) h0))
theorem b_282_1064 {Z : mZ} {l0 l1 l2 l3 l4 l5 l6 : mV} {s0 s1 : Int} {h : mH} : m_run Z (282, 1064, [l0, l1, l2, l3, l4, l5, l6], [(0, s0), (0, s1)], h) = if w32 s1 = w32 s0 then m_run Z (282, 2388, [l0, l1, l2, l3, l4, l5, l6], [], h) else m_run Z (282, 1067, [l0, l1, l2, l3, l4, l5, l6], [], h) := by
  exact g_brq (t := 2388) (off := 1324) (by decide +kernel : decode (m_byt 282) 1064 = .ok (.if_icmp .eq 1324, 3)) rfl rfl (by decide)
theorem b_282_1067 {Z : mZ} {l0 l1 l2 l3 l4 l5 l6 : mV} {h : mH} : m_run Z (282, 1067, [l0, l1, l2, l3, l4, l5, l6], [], h) = some (.inl (0, 0), h) := by
  refine g_base (by decide +kernel : decode (m_byt 282) 1067 = .ok (.iconst 0, 1)) rfl rfl ?_
  show m_run Z (282, 1068, [l0, l1, l2, l3, l4, l5, l6], [(0, 0)], h) = _
  exact g_zret (by decide +kernel : decode (m_byt 282) 1068 = .ok (.ireturn, 1)) (by decide +kernel) (by decide)
theorem b_282_1069 {Z : mZ} {l2 l5 l6 : mV} {x0 x4 : Int} {r1 r3 : Nat} {h : mH} (h0 : 0 ≤ w32 (x4 + 1)) (h1 : w32 (x4 + 1) < (Z.1 : Int)) (h2 : 0 ≤ w32 (x4 + 2)) (h3 : w32 (x4 + 2) < (Z.1 : Int)) (h4 : 0 ≤ w32 (x4 + 3)) (h5 : w32 (x4 + 3) < (Z.1 : Int)) (h6 : 0 ≤ w32 (x4 + 4)) (h7 : w32 (x4 + 4) < (Z.1 : Int)) (h8 : 0 ≤ w32 (x4 + 5)) (h9 : w32 (x4 + 5) < (Z.1 : Int)) : m_run Z (282, 1069, [(4, x0), (2, ((r1 : Nat) : Int)), l2, (2, ((r3 : Nat) : Int)), (0, x4), l5, l6], [], h) = (m_cl Z 264 [(2, ((r1 : Nat) : Int)), (0, (Z.2 (w32 (x4 + 1)).toNat).toInt), (0, (Z.2 (w32 (x4 + 2)).toNat).toInt), (0, (Z.2 (w32 (x4 + 3)).toNat).toInt), (0, (Z.2 (w32 (x4 + 4)).toNat).toInt), (0, (Z.2 (w32 (x4 + 5)).toNat).toInt), (2, ((r3 : Nat) : Int))] h).bind (m_aft (m_run Z) 282 1101 [(4, x0), (2, ((r1 : Nat) : Int)), l2, (2, ((r3 : Nat) : Int)), (0, x4), l5, l6] []) := by
  refine g_aload_n (k := 1) (v := (2, ((r1 : Nat) : Int))) (by decide +kernel : decode (m_byt 282) 1069 = .ok (.aload_n 1, 1)) rfl (Or.inl rfl) ?_
  refine g_aload_n (k := 0) (v := (4, x0)) (by decide +kernel : decode (m_byt 282) 1070 = .ok (.aload_n 0, 1)) rfl (Or.inr (Or.inr rfl)) ?_
  refine g_iload (k := 4) (x := x4) (by decide +kernel : decode (m_byt 282) 1071 = .ok (.iload 4, 2)) rfl ?_
  refine g_base (by decide +kernel : decode (m_byt 282) 1073 = .ok (.iconst 1, 1)) rfl rfl ?_
  show m_run Z (282, 1074, [(4, x0), (2, ((r1 : Nat) : Int)), l2, (2, ((r3 : Nat) : Int)), (0, x4), l5, l6], [(0, 1), (0, x4), (4, x0), (2, ((r1 : Nat) : Int))], h) = _
  refine g_base (by decide +kernel : decode (m_byt 282) 1074 = .ok (.iadd, 1)) rfl rfl ?_
  show m_run Z (282, 1075, [(4, x0), (2, ((r1 : Nat) : Int)), l2, (2, ((r3 : Nat) : Int)), (0, x4), l5, l6], [(0, (x4 + 1)), (4, x0), (2, ((r1 : Nat) : Int))], h) = _
  refine g_sald (by decide +kernel : decode (m_byt 282) 1075 = .ok (.iaload, 1)) h0 h1 ?_
  refine g_aload_n (k := 0) (v := (4, x0)) (by decide +kernel : decode (m_byt 282) 1076 = .ok (.aload_n 0, 1)) rfl (Or.inr (Or.inr rfl)) ?_
  refine g_iload (k := 4) (x := x4) (by decide +kernel : decode (m_byt 282) 1077 = .ok (.iload 4, 2)) rfl ?_
  refine g_base (by decide +kernel : decode (m_byt 282) 1079 = .ok (.iconst 2, 1)) rfl rfl ?_
  show m_run Z (282, 1080, [(4, x0), (2, ((r1 : Nat) : Int)), l2, (2, ((r3 : Nat) : Int)), (0, x4), l5, l6], [(0, 2), (0, x4), (4, x0), (0, (Z.2 (w32 (x4 + 1)).toNat).toInt), (2, ((r1 : Nat) : Int))], h) = _
  refine g_base (by decide +kernel : decode (m_byt 282) 1080 = .ok (.iadd, 1)) rfl rfl ?_
  show m_run Z (282, 1081, [(4, x0), (2, ((r1 : Nat) : Int)), l2, (2, ((r3 : Nat) : Int)), (0, x4), l5, l6], [(0, (x4 + 2)), (4, x0), (0, (Z.2 (w32 (x4 + 1)).toNat).toInt), (2, ((r1 : Nat) : Int))], h) = _
  refine g_sald (by decide +kernel : decode (m_byt 282) 1081 = .ok (.iaload, 1)) h2 h3 ?_
  refine g_aload_n (k := 0) (v := (4, x0)) (by decide +kernel : decode (m_byt 282) 1082 = .ok (.aload_n 0, 1)) rfl (Or.inr (Or.inr rfl)) ?_
  refine g_iload (k := 4) (x := x4) (by decide +kernel : decode (m_byt 282) 1083 = .ok (.iload 4, 2)) rfl ?_
  refine g_base (by decide +kernel : decode (m_byt 282) 1085 = .ok (.iconst 3, 1)) rfl rfl ?_
  show m_run Z (282, 1086, [(4, x0), (2, ((r1 : Nat) : Int)), l2, (2, ((r3 : Nat) : Int)), (0, x4), l5, l6], [(0, 3), (0, x4), (4, x0), (0, (Z.2 (w32 (x4 + 2)).toNat).toInt), (0, (Z.2 (w32 (x4 + 1)).toNat).toInt), (2, ((r1 : Nat) : Int))], h) = _
  refine g_base (by decide +kernel : decode (m_byt 282) 1086 = .ok (.iadd, 1)) rfl rfl ?_
  show m_run Z (282, 1087, [(4, x0), (2, ((r1 : Nat) : Int)), l2, (2, ((r3 : Nat) : Int)), (0, x4), l5, l6], [(0, (x4 + 3)), (4, x0), (0, (Z.2 (w32 (x4 + 2)).toNat).toInt), (0, (Z.2 (w32 (x4 + 1)).toNat).toInt), (2, ((r1 : Nat) : Int))], h) = _
  refine g_sald (by decide +kernel : decode (m_byt 282) 1087 = .ok (.iaload, 1)) h4 h5 ?_
  refine g_aload_n (k := 0) (v := (4, x0)) (by decide +kernel : decode (m_byt 282) 1088 = .ok (.aload_n 0, 1)) rfl (Or.inr (Or.inr rfl)) ?_
  refine g_iload (k := 4) (x := x4) (by decide +kernel : decode (m_byt 282) 1089 = .ok (.iload 4, 2)) rfl ?_
  refine g_base (by decide +kernel : decode (m_byt 282) 1091 = .ok (.iconst 4, 1)) rfl rfl ?_
  show m_run Z (282, 1092, [(4, x0), (2, ((r1 : Nat) : Int)), l2, (2, ((r3 : Nat) : Int)), (0, x4), l5, l6], [(0, 4), (0, x4), (4, x0), (0, (Z.2 (w32 (x4 + 3)).toNat).toInt), (0, (Z.2 (w32 (x4 + 2)).toNat).toInt), (0, (Z.2 (w32 (x4 + 1)).toNat).toInt), (2, ((r1 : Nat) : Int))], h) = _
  refine g_base (by decide +kernel : decode (m_byt 282) 1092 = .ok (.iadd, 1)) rfl rfl ?_
  show m_run Z (282, 1093, [(4, x0), (2, ((r1 : Nat) : Int)), l2, (2, ((r3 : Nat) : Int)), (0, x4), l5, l6], [(0, (x4 + 4)), (4, x0), (0, (Z.2 (w32 (x4 + 3)).toNat).toInt), (0, (Z.2 (w32 (x4 + 2)).toNat).toInt), (0, (Z.2 (w32 (x4 + 1)).toNat).toInt), (2, ((r1 : Nat) : Int))], h) = _
  refine g_sald (by decide +kernel : decode (m_byt 282) 1093 = .ok (.iaload, 1)) h6 h7 ?_
  refine g_aload_n (k := 0) (v := (4, x0)) (by decide +kernel : decode (m_byt 282) 1094 = .ok (.aload_n 0, 1)) rfl (Or.inr (Or.inr rfl)) ?_
  refine g_iload (k := 4) (x := x4) (by decide +kernel : decode (m_byt 282) 1095 = .ok (.iload 4, 2)) rfl ?_
  refine g_base (by decide +kernel : decode (m_byt 282) 1097 = .ok (.iconst 5, 1)) rfl rfl ?_
  show m_run Z (282, 1098, [(4, x0), (2, ((r1 : Nat) : Int)), l2, (2, ((r3 : Nat) : Int)), (0, x4), l5, l6], [(0, 5), (0, x4), (4, x0), (0, (Z.2 (w32 (x4 + 4)).toNat).toInt), (0, (Z.2 (w32 (x4 + 3)).toNat).toInt), (0, (Z.2 (w32 (x4 + 2)).toNat).toInt), (0, (Z.2 (w32 (x4 + 1)).toNat).toInt), (2, ((r1 : Nat) : Int))], h) = _
  refine g_base (by decide +kernel : decode (m_byt 282) 1098 = .ok (.iadd, 1)) rfl rfl ?_
  show m_run Z (282, 1099, [(4, x0), (2, ((r1 : Nat) : Int)), l2, (2, ((r3 : Nat) : Int)), (0, x4), l5, l6], [(0, (x4 + 5)), (4, x0), (0, (Z.2 (w32 (x4 + 4)).toNat).toInt), (0, (Z.2 (w32 (x4 + 3)).toNat).toInt), (0, (Z.2 (w32 (x4 + 2)).toNat).toInt), (0, (Z.2 (w32 (x4 + 1)).toNat).toInt), (2, ((r1 : Nat) : Int))], h) = _
  refine g_sald (by decide +kernel : decode (m_byt 282) 1099 = .ok (.iaload, 1)) h8 h9 ?_
  refine g_aload_n (k := 3) (v := (2, ((r3 : Nat) : Int))) (by decide +kernel : decode (m_byt 282) 1100 = .ok (.aload_n 3, 1)) rfl (Or.inl rfl) ?_
  exact g_inv (k := 0) (m' := 264) (np := 7) (as := [(2, ((r1 : Nat) : Int)), (0, (Z.2 (w32 (x4 + 1)).toNat).toInt), (0, (Z.2 (w32 (x4 + 2)).toNat).toInt), (0, (Z.2 (w32 (x4 + 3)).toNat).toInt), (0, (Z.2 (w32 (x4 + 4)).toNat).toInt), (0, (Z.2 (w32 (x4 + 5)).toNat).toInt), (2, ((r3 : Nat) : Int))]) (by decide +kernel : decode (m_byt 282) 1101 = .ok (.invokestatic 170, 3)) (Or.inr (Or.inr ⟨rfl, rfl, by decide, by decide⟩)) (by decide +kernel) (by decide +kernel) (by decide +kernel) (Nat.le_of_ble_eq_true rfl) rfl (Or.inl rfl)
theorem b_282_1104 {Z : mZ} {l1 l3 l5 l6 : mV} {s0 x4 x0 : Int} {r2 : Nat} {K : Nat → mK} {σ : Nat → Nat → Int} {n e s : Nat} (h0 : 0 ≤ w32 (x4 + 1)) (h1 : w32 (x4 + 1) < (Z.1 : Int)) (h2 : 0 ≤ w32 (x4 + 2)) (h3 : w32 (x4 + 2) < (Z.1 : Int)) (h4 : 0 ≤ w32 (x4 + 3)) (h5 : w32 (x4 + 3) < (Z.1 : Int)) (h6 : 0 ≤ w32 (x4 + 4)) (h7 : w32 (x4 + 4) < (Z.1 : Int)) (h8 : 0 ≤ w32 (x4 + 5)) (h9 : w32 (x4 + 5) < (Z.1 : Int)) (h10 : q_ob K n r2 7) : m_run Z (282, 1104, [(4, x0), l1, (2, ((r2 : Nat) : Int)), l3, (0, x4), l5, l6], [(0, s0)], (K, σ, n, e, s)) = (m_cl Z 196 [(2, ((r2 : Nat) : Int)), (0, (Z.2 (w32 (x4 + 1)).toNat).toInt), (0, (Z.2 (w32 (x4 + 2)).toNat).toInt), (0, (Z.2 (w32 (x4 + 3)).toNat).toInt), (0, (Z.2 (w32 (x4 + 4)).toNat).toInt), (0, (Z.2 (w32 (x4 + 5)).toNat).toInt)] (K, σ, n, e, s)).bind (m_aft (m_run Z) 282 1137 [(4, x0), l1, (2, ((r2 : Nat) : Int)), l3, (0, x4), (0, s0), l6] []) := by
  refine g_istore (k := 5) (by decide +kernel : decode (m_byt 282) 1104 = .ok (.istore 5, 2)) (Nat.le_of_ble_eq_true rfl) ?_
  show m_run Z (282, 1106, [(4, x0), l1, (2, ((r2 : Nat) : Int)), l3, (0, x4), (0, s0), l6], [], (K, σ, n, e, s)) = _
  refine g_aload_n (k := 2) (v := (2, ((r2 : Nat) : Int))) (by decide +kernel : decode (m_byt 282) 1106 = .ok (.aload_n 2, 1)) rfl (Or.inl rfl) ?_
  refine g_aload_n (k := 0) (v := (4, x0)) (by decide +kernel : decode (m_byt 282) 1107 = .ok (.aload_n 0, 1)) rfl (Or.inr (Or.inr rfl)) ?_
  refine g_iload (k := 4) (x := x4) (by decide +kernel : decode (m_byt 282) 1108 = .ok (.iload 4, 2)) rfl ?_
  refine g_base (by decide +kernel : decode (m_byt 282) 1110 = .ok (.iconst 1, 1)) rfl rfl ?_
  show m_run Z (282, 1111, [(4, x0), l1, (2, ((r2 : Nat) : Int)), l3, (0, x4), (0, s0), l6], [(0, 1), (0, x4), (4, x0), (2, ((r2 : Nat) : Int))], (K, σ, n, e, s)) = _
  refine g_base (by decide +kernel : decode (m_byt 282) 1111 = .ok (.iadd, 1)) rfl rfl ?_
  show m_run Z (282, 1112, [(4, x0), l1, (2, ((r2 : Nat) : Int)), l3, (0, x4), (0, s0), l6], [(0, (x4 + 1)), (4, x0), (2, ((r2 : Nat) : Int))], (K, σ, n, e, s)) = _
  refine g_sald (by decide +kernel : decode (m_byt 282) 1112 = .ok (.iaload, 1)) h0 h1 ?_
  refine g_aload_n (k := 0) (v := (4, x0)) (by decide +kernel : decode (m_byt 282) 1113 = .ok (.aload_n 0, 1)) rfl (Or.inr (Or.inr rfl)) ?_
  refine g_iload (k := 4) (x := x4) (by decide +kernel : decode (m_byt 282) 1114 = .ok (.iload 4, 2)) rfl ?_
  refine g_base (by decide +kernel : decode (m_byt 282) 1116 = .ok (.iconst 2, 1)) rfl rfl ?_
  show m_run Z (282, 1117, [(4, x0), l1, (2, ((r2 : Nat) : Int)), l3, (0, x4), (0, s0), l6], [(0, 2), (0, x4), (4, x0), (0, (Z.2 (w32 (x4 + 1)).toNat).toInt), (2, ((r2 : Nat) : Int))], (K, σ, n, e, s)) = _
  refine g_base (by decide +kernel : decode (m_byt 282) 1117 = .ok (.iadd, 1)) rfl rfl ?_
  show m_run Z (282, 1118, [(4, x0), l1, (2, ((r2 : Nat) : Int)), l3, (0, x4), (0, s0), l6], [(0, (x4 + 2)), (4, x0), (0, (Z.2 (w32 (x4 + 1)).toNat).toInt), (2, ((r2 : Nat) : Int))], (K, σ, n, e, s)) = _
  refine g_sald (by decide +kernel : decode (m_byt 282) 1118 = .ok (.iaload, 1)) h2 h3 ?_
  refine g_aload_n (k := 0) (v := (4, x0)) (by decide +kernel : decode (m_byt 282) 1119 = .ok (.aload_n 0, 1)) rfl (Or.inr (Or.inr rfl)) ?_
  refine g_iload (k := 4) (x := x4) (by decide +kernel : decode (m_byt 282) 1120 = .ok (.iload 4, 2)) rfl ?_
  refine g_base (by decide +kernel : decode (m_byt 282) 1122 = .ok (.iconst 3, 1)) rfl rfl ?_
  show m_run Z (282, 1123, [(4, x0), l1, (2, ((r2 : Nat) : Int)), l3, (0, x4), (0, s0), l6], [(0, 3), (0, x4), (4, x0), (0, (Z.2 (w32 (x4 + 2)).toNat).toInt), (0, (Z.2 (w32 (x4 + 1)).toNat).toInt), (2, ((r2 : Nat) : Int))], (K, σ, n, e, s)) = _
  refine g_base (by decide +kernel : decode (m_byt 282) 1123 = .ok (.iadd, 1)) rfl rfl ?_
  show m_run Z (282, 1124, [(4, x0), l1, (2, ((r2 : Nat) : Int)), l3, (0, x4), (0, s0), l6], [(0, (x4 + 3)), (4, x0), (0, (Z.2 (w32 (x4 + 2)).toNat).toInt), (0, (Z.2 (w32 (x4 + 1)).toNat).toInt), (2, ((r2 : Nat) : Int))], (K, σ, n, e, s)) = _
  refine g_sald (by decide +kernel : decode (m_byt 282) 1124 = .ok (.iaload, 1)) h4 h5 ?_
  refine g_aload_n (k := 0) (v := (4, x0)) (by decide +kernel : decode (m_byt 282) 1125 = .ok (.aload_n 0, 1)) rfl (Or.inr (Or.inr rfl)) ?_
  refine g_iload (k := 4) (x := x4) (by decide +kernel : decode (m_byt 282) 1126 = .ok (.iload 4, 2)) rfl ?_
  refine g_base (by decide +kernel : decode (m_byt 282) 1128 = .ok (.iconst 4, 1)) rfl rfl ?_
  show m_run Z (282, 1129, [(4, x0), l1, (2, ((r2 : Nat) : Int)), l3, (0, x4), (0, s0), l6], [(0, 4), (0, x4), (4, x0), (0, (Z.2 (w32 (x4 + 3)).toNat).toInt), (0, (Z.2 (w32 (x4 + 2)).toNat).toInt), (0, (Z.2 (w32 (x4 + 1)).toNat).toInt), (2, ((r2 : Nat) : Int))], (K, σ, n, e, s)) = _
  refine g_base (by decide +kernel : decode (m_byt 282) 1129 = .ok (.iadd, 1)) rfl rfl ?_
  show m_run Z (282, 1130, [(4, x0), l1, (2, ((r2 : Nat) : Int)), l3, (0, x4), (0, s0), l6], [(0, (x4 + 4)), (4, x0), (0, (Z.2 (w32 (x4 + 3)).toNat).toInt), (0, (Z.2 (w32 (x4 + 2)).toNat).toInt), (0, (Z.2 (w32 (x4 + 1)).toNat).toInt), (2, ((r2 : Nat) : Int))], (K, σ, n, e, s)) = _
  refine g_sald (by decide +kernel : decode (m_byt 282) 1130 = .ok (.iaload, 1)) h6 h7 ?_
  refine g_aload_n (k := 0) (v := (4, x0)) (by decide +kernel : decode (m_byt 282) 1131 = .ok (.aload_n 0, 1)) rfl (Or.inr (Or.inr rfl)) ?_
  refine g_iload (k := 4) (x := x4) (by decide +kernel : decode (m_byt 282) 1132 = .ok (.iload 4, 2)) rfl ?_
  refine g_base (by decide +kernel : decode (m_byt 282) 1134 = .ok (.iconst 5, 1)) rfl rfl ?_
  show m_run Z (282, 1135, [(4, x0), l1, (2, ((r2 : Nat) : Int)), l3, (0, x4), (0, s0), l6], [(0, 5), (0, x4), (4, x0), (0, (Z.2 (w32 (x4 + 4)).toNat).toInt), (0, (Z.2 (w32 (x4 + 3)).toNat).toInt), (0, (Z.2 (w32 (x4 + 2)).toNat).toInt), (0, (Z.2 (w32 (x4 + 1)).toNat).toInt), (2, ((r2 : Nat) : Int))], (K, σ, n, e, s)) = _
  refine g_base (by decide +kernel : decode (m_byt 282) 1135 = .ok (.iadd, 1)) rfl rfl ?_
  show m_run Z (282, 1136, [(4, x0), l1, (2, ((r2 : Nat) : Int)), l3, (0, x4), (0, s0), l6], [(0, (x4 + 5)), (4, x0), (0, (Z.2 (w32 (x4 + 4)).toNat).toInt), (0, (Z.2 (w32 (x4 + 3)).toNat).toInt), (0, (Z.2 (w32 (x4 + 2)).toNat).toInt), (0, (Z.2 (w32 (x4 + 1)).toNat).toInt), (2, ((r2 : Nat) : Int))], (K, σ, n, e, s)) = _
  refine g_sald (by decide +kernel : decode (m_byt 282) 1136 = .ok (.iaload, 1)) h8 h9 ?_
  exact g_inv (k := 1) (m' := 196) (np := 5) (as := [(2, ((r2 : Nat) : Int)), (0, (Z.2 (w32 (x4 + 1)).toNat).toInt), (0, (Z.2 (w32 (x4 + 2)).toNat).toInt), (0, (Z.2 (w32 (x4 + 3)).toNat).toInt), (0, (Z.2 (w32 (x4 + 4)).toNat).toInt), (0, (Z.2 (w32 (x4 + 5)).toNat).toInt)]) (by decide +kernel : decode (m_byt 282) 1137 = .ok (.invokevirtual 173, 3)) (Or.inl ⟨rfl, rfl⟩) (by decide +kernel) (by decide +kernel) (by decide +kernel) (Nat.le_of_ble_eq_true rfl) rfl (Or.inr (g_rcv (by decide +kernel) h10))
theorem b_282_1140 {Z : mZ} {l0 l1 l3 l4 l6 : mV} {s0 x5 : Int} {r2 : Nat} {K : Nat → mK} {σ : Nat → Nat → Int} {n e s : Nat} (h0 : q_ob K n r2 7) : m_run Z (282, 1140, [l0, l1, (2, ((r2 : Nat) : Int)), l3, l4, (0, x5), l6], [(0, s0)], (K, σ, n, e, s)) = (m_cl Z 150 [(2, ((r2 : Nat) : Int))] (K, σ, n, e, s)).bind (m_aft (m_run Z) 282 1143 [l0, l1, (2, ((r2 : Nat) : Int)), l3, l4, (0, x5), (0, s0)] []) := by
  refine g_istore (k := 6) (by decide +kernel : decode (m_byt 282) 1140 = .ok (.istore 6, 2)) (Nat.le_of_ble_eq_true rfl) ?_
  show m_run Z (282, 1142, [l0, l1, (2, ((r2 : Nat) : Int)), l3, l4, (0, x5), (0, s0)], [], (K, σ, n, e, s)) = _
  refine g_aload_n (k := 2) (v := (2, ((r2 : Nat) : Int))) (by decide +kernel : decode (m_byt 282) 1142 = .ok (.aload_n 2, 1)) rfl (Or.inl rfl) ?_
  exact g_inv (k := 1) (m' := 150) (np := 0) (as := [(2, ((r2 : Nat) : Int))]) (by decide +kernel : decode (m_byt 282) 1143 = .ok (.invokevirtual 125, 3)) (Or.inl ⟨rfl, rfl⟩) (by decide +kernel) (by decide +kernel) (by decide +kernel) (Nat.le_of_ble_eq_true rfl) rfl (Or.inr (g_rcv (by decide +kernel) h0))
theorem b_282_1146 {Z : mZ} {l0 l1 l2 l3 l4 l6 : mV} {s0 x5 : Int} {h : mH} : m_run Z (282, 1146, [l0, l1, l2, l3, l4, (0, x5), l6], [(0, s0)], h) = if w32 s0 = w32 x5 then m_run Z (282, 1153, [l0, l1, l2, l3, l4, (0, x5), l6], [], h) else m_run Z (282, 1151, [l0, l1, l2, l3, l4, (0, x5), l6], [], h) := by
  refine g_iload (k := 5) (x := x5) (by decide +kernel : decode (m_byt 282) 1146 = .ok (.iload 5, 2)) rfl ?_
  exact g_brq (t := 1153) (off := 5) (by decide +kernel : decode (m_byt 282) 1148 = .ok (.if_icmp .eq 5, 3)) rfl rfl (by decide)
theorem b_282_1151 {Z : mZ} {l0 l1 l2 l3 l4 l5 l6 : mV} {h : mH} : m_run Z (282, 1151, [l0, l1, l2, l3, l4, l5, l6], [], h) = some (.inl (0, 0), h) := by
  refine g_base (by decide +kernel : decode (m_byt 282) 1151 = .ok (.iconst 0, 1)) rfl rfl ?_
  show m_run Z (282, 1152, [l0, l1, l2, l3, l4, l5, l6], [(0, 0)], h) = _
  exact g_zret (by decide +kernel : decode (m_byt 282) 1152 = .ok (.ireturn, 1)) (by decide +kernel) (by decide)
theorem b_282_1153 {Z : mZ} {l0 l1 l2 l3 l4 l6 : mV} {x5 : Int} {h : mH} : m_run Z (282, 1153, [l0, l1, l2, l3, l4, (0, x5), l6], [], h) = if w32 x5 = 0 then m_run Z (282, 1158, [l0, l1, l2, l3, l4, (0, x5), l6], [], h) else m_run Z (282, 1170, [l0, l1, l2, l3, l4, (0, x5), l6], [], h) := by
  refine g_iload (k := 5) (x := x5) (by decide +kernel : decode (m_byt 282) 1153 = .ok (.iload 5, 2)) rfl ?_
  exact g_brn (t := 1170) (off := 15) (by decide +kernel : decode (m_byt 282) 1155 = .ok (.ifCond .ne 15, 3)) rfl rfl (by decide)
theorem b_282_1158 {Z : mZ} {l0 l1 l2 l4 l5 : mV} {x6 : Int} {r3 : Nat} {K : Nat → mK} {σ : Nat → Nat → Int} {n e s : Nat} (h0 : 0 ≤ w32 0) (h1 : w32 0 < (q_ln K r3 : Int)) (h2 : q_ak K n r3 3) : m_run Z (282, 1158, [l0, l1, l2, (2, ((r3 : Nat) : Int)), l4, l5, (0, x6)], [], (K, σ, n, e, s)) = if w32 (l_cmp (σ r3 (w32 0).toNat) (w32 x6)) = 0 then m_run Z (282, 1170, [l0, l1, l2, (2, ((r3 : Nat) : Int)), l4, l5, (0, x6)], [], (K, σ, n, e, s)) else m_run Z (282, 1168, [l0, l1, l2, (2, ((r3 : Nat) : Int)), l4, l5, (0, x6)], [], (K, σ, n, e, s)) := by
  refine g_aload_n (k := 3) (v := (2, ((r3 : Nat) : Int))) (by decide +kernel : decode (m_byt 282) 1158 = .ok (.aload_n 3, 1)) rfl (Or.inl rfl) ?_
  refine g_base (by decide +kernel : decode (m_byt 282) 1159 = .ok (.iconst 0, 1)) rfl rfl ?_
  show m_run Z (282, 1160, [l0, l1, l2, (2, ((r3 : Nat) : Int)), l4, l5, (0, x6)], [(0, 0), (2, ((r3 : Nat) : Int))], (K, σ, n, e, s)) = _
  refine g_lald (by decide +kernel : decode (m_byt 282) 1160 = .ok (.laload, 1)) h2 h0 h1 ?_
  refine g_iload (k := 6) (x := x6) (by decide +kernel : decode (m_byt 282) 1161 = .ok (.iload 6, 2)) rfl ?_
  refine g_base (by decide +kernel : decode (m_byt 282) 1163 = .ok (.i2l, 1)) rfl rfl ?_
  show m_run Z (282, 1164, [l0, l1, l2, (2, ((r3 : Nat) : Int)), l4, l5, (0, x6)], [(1, (w32 x6)), (1, (σ r3 (w32 0).toNat))], (K, σ, n, e, s)) = _
  refine g_base (by decide +kernel : decode (m_byt 282) 1164 = .ok (.lcmp, 1)) rfl rfl ?_
  show m_run Z (282, 1165, [l0, l1, l2, (2, ((r3 : Nat) : Int)), l4, l5, (0, x6)], [(0, (l_cmp (σ r3 (w32 0).toNat) (w32 x6)))], (K, σ, n, e, s)) = _
  exact g_brq (t := 1170) (off := 5) (by decide +kernel : decode (m_byt 282) 1165 = .ok (.ifCond .eq 5, 3)) rfl rfl (by decide)
theorem b_282_1168 {Z : mZ} {l0 l1 l2 l3 l4 l5 l6 : mV} {h : mH} : m_run Z (282, 1168, [l0, l1, l2, l3, l4, l5, l6], [], h) = some (.inl (0, 0), h) := by
  refine g_base (by decide +kernel : decode (m_byt 282) 1168 = .ok (.iconst 0, 1)) rfl rfl ?_
  show m_run Z (282, 1169, [l0, l1, l2, l3, l4, l5, l6], [(0, 0)], h) = _
  exact g_zret (by decide +kernel : decode (m_byt 282) 1169 = .ok (.ireturn, 1)) (by decide +kernel) (by decide)
theorem b_282_1170 {Z : mZ} {l0 l1 l2 l5 l6 : mV} {x4 : Int} {r3 : Nat} {h : mH} : m_run Z (282, 1170, [l0, l1, l2, (2, ((r3 : Nat) : Int)), (0, x4), l5, l6], [], h) = m_run Z (282, 23, [l0, l1, l2, (2, ((r3 : Nat) : Int)), (0, x4 + 6), l5, l6], [], h) := by
  refine g_jmp (t := 2388) (by decide +kernel : decode (m_byt 282) 1170 = .ok (.goto 1218, 3)) (by decide) ?_
  refine g_iinc (k := 4) (x := x4) (by decide +kernel : decode (m_byt 282) 2388 = .ok (.iinc 4 6, 3)) rfl (Nat.le_of_ble_eq_true rfl) ?_
  show m_run Z (282, 2391, [l0, l1, l2, (2, ((r3 : Nat) : Int)), (0, x4 + 6), l5, l6], [], h) = _
  refine g_jmp (t := 23) (by decide +kernel : decode (m_byt 282) 2391 = .ok (.goto (-2368), 3)) (by decide) ?_
  rfl
theorem b_282_1173 {Z : mZ} {l2 l5 l6 : mV} {x0 x4 : Int} {r1 r3 : Nat} {h : mH} (h0 : 0 ≤ w32 (x4 + 1)) (h1 : w32 (x4 + 1) < (Z.1 : Int)) (h2 : 0 ≤ w32 (x4 + 2)) (h3 : w32 (x4 + 2) < (Z.1 : Int)) (h4 : 0 ≤ w32 (x4 + 3)) (h5 : w32 (x4 + 3) < (Z.1 : Int)) : m_run Z (282, 1173, [(4, x0), (2, ((r1 : Nat) : Int)), l2, (2, ((r3 : Nat) : Int)), (0, x4), l5, l6], [], h) = (m_cl Z 265 [(2, ((r1 : Nat) : Int)), (0, (Z.2 (w32 (x4 + 1)).toNat).toInt), (0, (Z.2 (w32 (x4 + 2)).toNat).toInt), (0, (Z.2 (w32 (x4 + 3)).toNat).toInt), (2, ((r3 : Nat) : Int))] h).bind (m_aft (m_run Z) 282 1193 [(4, x0), (2, ((r1 : Nat) : Int)), l2, (2, ((r3 : Nat) : Int)), (0, x4), l5, l6] []) := by
  refine g_aload_n (k := 1) (v := (2, ((r1 : Nat) : Int))) (by decide +kernel : decode (m_byt 282) 1173 = .ok (.aload_n 1, 1)) rfl (Or.inl rfl) ?_
  refine g_aload_n (k := 0) (v := (4, x0)) (by decide +kernel : decode (m_byt 282) 1174 = .ok (.aload_n 0, 1)) rfl (Or.inr (Or.inr rfl)) ?_
  refine g_iload (k := 4) (x := x4) (by decide +kernel : decode (m_byt 282) 1175 = .ok (.iload 4, 2)) rfl ?_
  refine g_base (by decide +kernel : decode (m_byt 282) 1177 = .ok (.iconst 1, 1)) rfl rfl ?_
  show m_run Z (282, 1178, [(4, x0), (2, ((r1 : Nat) : Int)), l2, (2, ((r3 : Nat) : Int)), (0, x4), l5, l6], [(0, 1), (0, x4), (4, x0), (2, ((r1 : Nat) : Int))], h) = _
  refine g_base (by decide +kernel : decode (m_byt 282) 1178 = .ok (.iadd, 1)) rfl rfl ?_
  show m_run Z (282, 1179, [(4, x0), (2, ((r1 : Nat) : Int)), l2, (2, ((r3 : Nat) : Int)), (0, x4), l5, l6], [(0, (x4 + 1)), (4, x0), (2, ((r1 : Nat) : Int))], h) = _
  refine g_sald (by decide +kernel : decode (m_byt 282) 1179 = .ok (.iaload, 1)) h0 h1 ?_
  refine g_aload_n (k := 0) (v := (4, x0)) (by decide +kernel : decode (m_byt 282) 1180 = .ok (.aload_n 0, 1)) rfl (Or.inr (Or.inr rfl)) ?_
  refine g_iload (k := 4) (x := x4) (by decide +kernel : decode (m_byt 282) 1181 = .ok (.iload 4, 2)) rfl ?_
  refine g_base (by decide +kernel : decode (m_byt 282) 1183 = .ok (.iconst 2, 1)) rfl rfl ?_
  show m_run Z (282, 1184, [(4, x0), (2, ((r1 : Nat) : Int)), l2, (2, ((r3 : Nat) : Int)), (0, x4), l5, l6], [(0, 2), (0, x4), (4, x0), (0, (Z.2 (w32 (x4 + 1)).toNat).toInt), (2, ((r1 : Nat) : Int))], h) = _
  refine g_base (by decide +kernel : decode (m_byt 282) 1184 = .ok (.iadd, 1)) rfl rfl ?_
  show m_run Z (282, 1185, [(4, x0), (2, ((r1 : Nat) : Int)), l2, (2, ((r3 : Nat) : Int)), (0, x4), l5, l6], [(0, (x4 + 2)), (4, x0), (0, (Z.2 (w32 (x4 + 1)).toNat).toInt), (2, ((r1 : Nat) : Int))], h) = _
  refine g_sald (by decide +kernel : decode (m_byt 282) 1185 = .ok (.iaload, 1)) h2 h3 ?_
  refine g_aload_n (k := 0) (v := (4, x0)) (by decide +kernel : decode (m_byt 282) 1186 = .ok (.aload_n 0, 1)) rfl (Or.inr (Or.inr rfl)) ?_
  refine g_iload (k := 4) (x := x4) (by decide +kernel : decode (m_byt 282) 1187 = .ok (.iload 4, 2)) rfl ?_
  refine g_base (by decide +kernel : decode (m_byt 282) 1189 = .ok (.iconst 3, 1)) rfl rfl ?_
  show m_run Z (282, 1190, [(4, x0), (2, ((r1 : Nat) : Int)), l2, (2, ((r3 : Nat) : Int)), (0, x4), l5, l6], [(0, 3), (0, x4), (4, x0), (0, (Z.2 (w32 (x4 + 2)).toNat).toInt), (0, (Z.2 (w32 (x4 + 1)).toNat).toInt), (2, ((r1 : Nat) : Int))], h) = _
  refine g_base (by decide +kernel : decode (m_byt 282) 1190 = .ok (.iadd, 1)) rfl rfl ?_
  show m_run Z (282, 1191, [(4, x0), (2, ((r1 : Nat) : Int)), l2, (2, ((r3 : Nat) : Int)), (0, x4), l5, l6], [(0, (x4 + 3)), (4, x0), (0, (Z.2 (w32 (x4 + 2)).toNat).toInt), (0, (Z.2 (w32 (x4 + 1)).toNat).toInt), (2, ((r1 : Nat) : Int))], h) = _
  refine g_sald (by decide +kernel : decode (m_byt 282) 1191 = .ok (.iaload, 1)) h4 h5 ?_
  refine g_aload_n (k := 3) (v := (2, ((r3 : Nat) : Int))) (by decide +kernel : decode (m_byt 282) 1192 = .ok (.aload_n 3, 1)) rfl (Or.inl rfl) ?_
  exact g_inv (k := 0) (m' := 265) (np := 5) (as := [(2, ((r1 : Nat) : Int)), (0, (Z.2 (w32 (x4 + 1)).toNat).toInt), (0, (Z.2 (w32 (x4 + 2)).toNat).toInt), (0, (Z.2 (w32 (x4 + 3)).toNat).toInt), (2, ((r3 : Nat) : Int))]) (by decide +kernel : decode (m_byt 282) 1193 = .ok (.invokestatic 174, 3)) (Or.inr (Or.inr ⟨rfl, rfl, by decide, by decide⟩)) (by decide +kernel) (by decide +kernel) (by decide +kernel) (Nat.le_of_ble_eq_true rfl) rfl (Or.inl rfl)
theorem b_282_1196 {Z : mZ} {l1 l3 l5 l6 : mV} {s0 x4 x0 : Int} {r2 : Nat} {K : Nat → mK} {σ : Nat → Nat → Int} {n e s : Nat} (h0 : 0 ≤ w32 (x4 + 1)) (h1 : w32 (x4 + 1) < (Z.1 : Int)) (h2 : 0 ≤ w32 (x4 + 2)) (h3 : w32 (x4 + 2) < (Z.1 : Int)) (h4 : 0 ≤ w32 (x4 + 3)) (h5 : w32 (x4 + 3) < (Z.1 : Int)) (h6 : q_ob K n r2 7) : m_run Z (282, 1196, [(4, x0), l1, (2, ((r2 : Nat) : Int)), l3, (0, x4), l5, l6], [(0, s0)], (K, σ, n, e, s)) = (m_cl Z 198 [(2, ((r2 : Nat) : Int)), (0, (Z.2 (w32 (x4 + 1)).toNat).toInt), (0, (Z.2 (w32 (x4 + 2)).toNat).toInt), (0, (Z.2 (w32 (x4 + 3)).toNat).toInt)] (K, σ, n, e, s)).bind (m_aft (m_run Z) 282 1217 [(4, x0), l1, (2, ((r2 : Nat) : Int)), l3, (0, x4), (0, s0), l6] []) := by
  refine g_istore (k := 5) (by decide +kernel : decode (m_byt 282) 1196 = .ok (.istore 5, 2)) (Nat.le_of_ble_eq_true rfl) ?_
  show m_run Z (282, 1198, [(4, x0), l1, (2, ((r2 : Nat) : Int)), l3, (0, x4), (0, s0), l6], [], (K, σ, n, e, s)) = _
  refine g_aload_n (k := 2) (v := (2, ((r2 : Nat) : Int))) (by decide +kernel : decode (m_byt 282) 1198 = .ok (.aload_n 2, 1)) rfl (Or.inl rfl) ?_
  refine g_aload_n (k := 0) (v := (4, x0)) (by decide +kernel : decode (m_byt 282) 1199 = .ok (.aload_n 0, 1)) rfl (Or.inr (Or.inr rfl)) ?_
  refine g_iload (k := 4) (x := x4) (by decide +kernel : decode (m_byt 282) 1200 = .ok (.iload 4, 2)) rfl ?_
  refine g_base (by decide +kernel : decode (m_byt 282) 1202 = .ok (.iconst 1, 1)) rfl rfl ?_
  show m_run Z (282, 1203, [(4, x0), l1, (2, ((r2 : Nat) : Int)), l3, (0, x4), (0, s0), l6], [(0, 1), (0, x4), (4, x0), (2, ((r2 : Nat) : Int))], (K, σ, n, e, s)) = _
  refine g_base (by decide +kernel : decode (m_byt 282) 1203 = .ok (.iadd, 1)) rfl rfl ?_
  show m_run Z (282, 1204, [(4, x0), l1, (2, ((r2 : Nat) : Int)), l3, (0, x4), (0, s0), l6], [(0, (x4 + 1)), (4, x0), (2, ((r2 : Nat) : Int))], (K, σ, n, e, s)) = _
  refine g_sald (by decide +kernel : decode (m_byt 282) 1204 = .ok (.iaload, 1)) h0 h1 ?_
  refine g_aload_n (k := 0) (v := (4, x0)) (by decide +kernel : decode (m_byt 282) 1205 = .ok (.aload_n 0, 1)) rfl (Or.inr (Or.inr rfl)) ?_
  refine g_iload (k := 4) (x := x4) (by decide +kernel : decode (m_byt 282) 1206 = .ok (.iload 4, 2)) rfl ?_
  refine g_base (by decide +kernel : decode (m_byt 282) 1208 = .ok (.iconst 2, 1)) rfl rfl ?_
  show m_run Z (282, 1209, [(4, x0), l1, (2, ((r2 : Nat) : Int)), l3, (0, x4), (0, s0), l6], [(0, 2), (0, x4), (4, x0), (0, (Z.2 (w32 (x4 + 1)).toNat).toInt), (2, ((r2 : Nat) : Int))], (K, σ, n, e, s)) = _
  refine g_base (by decide +kernel : decode (m_byt 282) 1209 = .ok (.iadd, 1)) rfl rfl ?_
  show m_run Z (282, 1210, [(4, x0), l1, (2, ((r2 : Nat) : Int)), l3, (0, x4), (0, s0), l6], [(0, (x4 + 2)), (4, x0), (0, (Z.2 (w32 (x4 + 1)).toNat).toInt), (2, ((r2 : Nat) : Int))], (K, σ, n, e, s)) = _
  refine g_sald (by decide +kernel : decode (m_byt 282) 1210 = .ok (.iaload, 1)) h2 h3 ?_
  refine g_aload_n (k := 0) (v := (4, x0)) (by decide +kernel : decode (m_byt 282) 1211 = .ok (.aload_n 0, 1)) rfl (Or.inr (Or.inr rfl)) ?_
  refine g_iload (k := 4) (x := x4) (by decide +kernel : decode (m_byt 282) 1212 = .ok (.iload 4, 2)) rfl ?_
  refine g_base (by decide +kernel : decode (m_byt 282) 1214 = .ok (.iconst 3, 1)) rfl rfl ?_
  show m_run Z (282, 1215, [(4, x0), l1, (2, ((r2 : Nat) : Int)), l3, (0, x4), (0, s0), l6], [(0, 3), (0, x4), (4, x0), (0, (Z.2 (w32 (x4 + 2)).toNat).toInt), (0, (Z.2 (w32 (x4 + 1)).toNat).toInt), (2, ((r2 : Nat) : Int))], (K, σ, n, e, s)) = _
  refine g_base (by decide +kernel : decode (m_byt 282) 1215 = .ok (.iadd, 1)) rfl rfl ?_
  show m_run Z (282, 1216, [(4, x0), l1, (2, ((r2 : Nat) : Int)), l3, (0, x4), (0, s0), l6], [(0, (x4 + 3)), (4, x0), (0, (Z.2 (w32 (x4 + 2)).toNat).toInt), (0, (Z.2 (w32 (x4 + 1)).toNat).toInt), (2, ((r2 : Nat) : Int))], (K, σ, n, e, s)) = _
  refine g_sald (by decide +kernel : decode (m_byt 282) 1216 = .ok (.iaload, 1)) h4 h5 ?_
  exact g_inv (k := 1) (m' := 198) (np := 3) (as := [(2, ((r2 : Nat) : Int)), (0, (Z.2 (w32 (x4 + 1)).toNat).toInt), (0, (Z.2 (w32 (x4 + 2)).toNat).toInt), (0, (Z.2 (w32 (x4 + 3)).toNat).toInt)]) (by decide +kernel : decode (m_byt 282) 1217 = .ok (.invokevirtual 176, 3)) (Or.inl ⟨rfl, rfl⟩) (by decide +kernel) (by decide +kernel) (by decide +kernel) (Nat.le_of_ble_eq_true rfl) rfl (Or.inr (g_rcv (by decide +kernel) h6))
theorem b_282_1220 {Z : mZ} {l0 l1 l3 l4 l6 : mV} {s0 x5 : Int} {r2 : Nat} {K : Nat → mK} {σ : Nat → Nat → Int} {n e s : Nat} (h0 : q_ob K n r2 7) : m_run Z (282, 1220, [l0, l1, (2, ((r2 : Nat) : Int)), l3, l4, (0, x5), l6], [(0, s0)], (K, σ, n, e, s)) = (m_cl Z 150 [(2, ((r2 : Nat) : Int))] (K, σ, n, e, s)).bind (m_aft (m_run Z) 282 1223 [l0, l1, (2, ((r2 : Nat) : Int)), l3, l4, (0, x5), (0, s0)] []) := by
  refine g_istore (k := 6) (by decide +kernel : decode (m_byt 282) 1220 = .ok (.istore 6, 2)) (Nat.le_of_ble_eq_true rfl) ?_
  show m_run Z (282, 1222, [l0, l1, (2, ((r2 : Nat) : Int)), l3, l4, (0, x5), (0, s0)], [], (K, σ, n, e, s)) = _
  refine g_aload_n (k := 2) (v := (2, ((r2 : Nat) : Int))) (by decide +kernel : decode (m_byt 282) 1222 = .ok (.aload_n 2, 1)) rfl (Or.inl rfl) ?_
  exact g_inv (k := 1) (m' := 150) (np := 0) (as := [(2, ((r2 : Nat) : Int))]) (by decide +kernel : decode (m_byt 282) 1223 = .ok (.invokevirtual 125, 3)) (Or.inl ⟨rfl, rfl⟩) (by decide +kernel) (by decide +kernel) (by decide +kernel) (Nat.le_of_ble_eq_true rfl) rfl (Or.inr (g_rcv (by decide +kernel) h0))
theorem b_282_1226 {Z : mZ} {l0 l1 l2 l3 l4 l6 : mV} {s0 x5 : Int} {h : mH} : m_run Z (282, 1226, [l0, l1, l2, l3, l4, (0, x5), l6], [(0, s0)], h) = if w32 s0 = w32 x5 then m_run Z (282, 1233, [l0, l1, l2, l3, l4, (0, x5), l6], [], h) else m_run Z (282, 1231, [l0, l1, l2, l3, l4, (0, x5), l6], [], h) := by
  refine g_iload (k := 5) (x := x5) (by decide +kernel : decode (m_byt 282) 1226 = .ok (.iload 5, 2)) rfl ?_
  exact g_brq (t := 1233) (off := 5) (by decide +kernel : decode (m_byt 282) 1228 = .ok (.if_icmp .eq 5, 3)) rfl rfl (by decide)
theorem b_282_1231 {Z : mZ} {l0 l1 l2 l3 l4 l5 l6 : mV} {h : mH} : m_run Z (282, 1231, [l0, l1, l2, l3, l4, l5, l6], [], h) = some (.inl (0, 0), h) := by
  refine g_base (by decide +kernel : decode (m_byt 282) 1231 = .ok (.iconst 0, 1)) rfl rfl ?_
  show m_run Z (282, 1232, [l0, l1, l2, l3, l4, l5, l6], [(0, 0)], h) = _
  exact g_zret (by decide +kernel : decode (m_byt 282) 1232 = .ok (.ireturn, 1)) (by decide +kernel) (by decide)
theorem b_282_1233 {Z : mZ} {l0 l1 l2 l3 l4 l6 : mV} {x5 : Int} {h : mH} : m_run Z (282, 1233, [l0, l1, l2, l3, l4, (0, x5), l6], [], h) = if w32 x5 = 0 then m_run Z (282, 1238, [l0, l1, l2, l3, l4, (0, x5), l6], [], h) else m_run Z (282, 1257, [l0, l1, l2, l3, l4, (0, x5), l6], [], h) := by
  refine g_iload (k := 5) (x := x5) (by decide +kernel : decode (m_byt 282) 1233 = .ok (.iload 5, 2)) rfl ?_
  exact g_brn (t := 1257) (off := 22) (by decide +kernel : decode (m_byt 282) 1235 = .ok (.ifCond .ne 22, 3)) rfl rfl (by decide)
theorem b_282_1238 {Z : mZ} {l0 l1 l2 l4 l5 : mV} {x6 : Int} {r3 : Nat} {K : Nat → mK} {σ : Nat → Nat → Int} {n e s : Nat} (h0 : 0 ≤ w32 0) (h1 : w32 0 < (q_ln K r3 : Int)) (h2 : q_ak K n r3 3) : m_run Z (282, 1238, [l0, l1, l2, (2, ((r3 : Nat) : Int)), l4, l5, (0, x6)], [], (K, σ, n, e, s)) = if w32 x6 = 0 then m_run Z (282, 1250, [l0, l1, l2, (2, ((r3 : Nat) : Int)), l4, l5, (0, x6)], [(1, (σ r3 (w32 0).toNat))], (K, σ, n, e, s)) else m_run Z (282, 1246, [l0, l1, l2, (2, ((r3 : Nat) : Int)), l4, l5, (0, x6)], [(1, (σ r3 (w32 0).toNat))], (K, σ, n, e, s)) := by
  refine g_aload_n (k := 3) (v := (2, ((r3 : Nat) : Int))) (by decide +kernel : decode (m_byt 282) 1238 = .ok (.aload_n 3, 1)) rfl (Or.inl rfl) ?_
  refine g_base (by decide +kernel : decode (m_byt 282) 1239 = .ok (.iconst 0, 1)) rfl rfl ?_
  show m_run Z (282, 1240, [l0, l1, l2, (2, ((r3 : Nat) : Int)), l4, l5, (0, x6)], [(0, 0), (2, ((r3 : Nat) : Int))], (K, σ, n, e, s)) = _
  refine g_lald (by decide +kernel : decode (m_byt 282) 1240 = .ok (.laload, 1)) h2 h0 h1 ?_
  refine g_iload (k := 6) (x := x6) (by decide +kernel : decode (m_byt 282) 1241 = .ok (.iload 6, 2)) rfl ?_
  exact g_brq (t := 1250) (off := 7) (by decide +kernel : decode (m_byt 282) 1243 = .ok (.ifCond .eq 7, 3)) rfl rfl (by decide)
theorem b_282_1246 {Z : mZ} {l0 l1 l2 l3 l4 l5 l6 : mV} {s0 : Int} {h : mH} : m_run Z (282, 1246, [l0, l1, l2, l3, l4, l5, l6], [(1, s0)], h) = if w32 (l_cmp s0 1) = 0 then m_run Z (282, 1257, [l0, l1, l2, l3, l4, l5, l6], [], h) else m_run Z (282, 1255, [l0, l1, l2, l3, l4, l5, l6], [], h) := by
  refine g_base (by decide +kernel : decode (m_byt 282) 1246 = .ok (.lconst 1, 1)) rfl rfl ?_
  show m_run Z (282, 1247, [l0, l1, l2, l3, l4, l5, l6], [(1, 1), (1, s0)], h) = _
  refine g_jmp (t := 1251) (by decide +kernel : decode (m_byt 282) 1247 = .ok (.goto 4, 3)) (by decide) ?_
  refine g_base (by decide +kernel : decode (m_byt 282) 1251 = .ok (.lcmp, 1)) rfl rfl ?_
  show m_run Z (282, 1252, [l0, l1, l2, l3, l4, l5, l6], [(0, (l_cmp s0 1))], h) = _
  exact g_brq (t := 1257) (off := 5) (by decide +kernel : decode (m_byt 282) 1252 = .ok (.ifCond .eq 5, 3)) rfl rfl (by decide)
theorem b_282_1250 {Z : mZ} {l0 l1 l2 l3 l4 l5 l6 : mV} {s0 : Int} {h : mH} : m_run Z (282, 1250, [l0, l1, l2, l3, l4, l5, l6], [(1, s0)], h) = m_run Z (282, 1251, [l0, l1, l2, l3, l4, l5, l6], [(1, 0), (1, s0)], h) := by
  refine g_base (by decide +kernel : decode (m_byt 282) 1250 = .ok (.lconst 0, 1)) rfl rfl ?_
  show m_run Z (282, 1251, [l0, l1, l2, l3, l4, l5, l6], [(1, 0), (1, s0)], h) = _
  rfl
theorem b_282_1251 {Z : mZ} {l0 l1 l2 l3 l4 l5 l6 : mV} {s0 s1 : Int} {h : mH} : m_run Z (282, 1251, [l0, l1, l2, l3, l4, l5, l6], [(1, s0), (1, s1)], h) = if w32 (l_cmp s1 s0) = 0 then m_run Z (282, 1257, [l0, l1, l2, l3, l4, l5, l6], [], h) else m_run Z (282, 1255, [l0, l1, l2, l3, l4, l5, l6], [], h) := by
  refine g_base (by decide +kernel : decode (m_byt 282) 1251 = .ok (.lcmp, 1)) rfl rfl ?_
  show m_run Z (282, 1252, [l0, l1, l2, l3, l4, l5, l6], [(0, (l_cmp s1 s0))], h) = _
  exact g_brq (t := 1257) (off := 5) (by decide +kernel : decode (m_byt 282) 1252 = .ok (.ifCond .eq 5, 3)) rfl rfl (by decide)
theorem b_282_1255 {Z : mZ} {l0 l1 l2 l3 l4 l5 l6 : mV} {h : mH} : m_run Z (282, 1255, [l0, l1, l2, l3, l4, l5, l6], [], h) = some (.inl (0, 0), h) := by
  refine g_base (by decide +kernel : decode (m_byt 282) 1255 = .ok (.iconst 0, 1)) rfl rfl ?_
  show m_run Z (282, 1256, [l0, l1, l2, l3, l4, l5, l6], [(0, 0)], h) = _
  exact g_zret (by decide +kernel : decode (m_byt 282) 1256 = .ok (.ireturn, 1)) (by decide +kernel) (by decide)
theorem b_282_1257 {Z : mZ} {l0 l1 l2 l5 l6 : mV} {x4 : Int} {r3 : Nat} {h : mH} : m_run Z (282, 1257, [l0, l1, l2, (2, ((r3 : Nat) : Int)), (0, x4), l5, l6], [], h) = m_run Z (282, 23, [l0, l1, l2, (2, ((r3 : Nat) : Int)), (0, x4 + 6), l5, l6], [], h) := by
  refine g_jmp (t := 2388) (by decide +kernel : decode (m_byt 282) 1257 = .ok (.goto 1131, 3)) (by decide) ?_
  refine g_iinc (k := 4) (x := x4) (by decide +kernel : decode (m_byt 282) 2388 = .ok (.iinc 4 6, 3)) rfl (Nat.le_of_ble_eq_true rfl) ?_
  show m_run Z (282, 2391, [l0, l1, l2, (2, ((r3 : Nat) : Int)), (0, x4 + 6), l5, l6], [], h) = _
  refine g_jmp (t := 23) (by decide +kernel : decode (m_byt 282) 2391 = .ok (.goto (-2368), 3)) (by decide) ?_
  rfl
theorem b_282_1260 {Z : mZ} {l2 l5 l6 : mV} {x0 x4 : Int} {r1 r3 : Nat} {h : mH} (h0 : 0 ≤ w32 (x4 + 1)) (h1 : w32 (x4 + 1) < (Z.1 : Int)) (h2 : 0 ≤ w32 (x4 + 2)) (h3 : w32 (x4 + 2) < (Z.1 : Int)) (h4 : 0 ≤ w32 (x4 + 3)) (h5 : w32 (x4 + 3) < (Z.1 : Int)) (h6 : 0 ≤ w32 (x4 + 4)) (h7 : w32 (x4 + 4) < (Z.1 : Int)) (h8 : 0 ≤ w32 (x4 + 5)) (h9 : w32 (x4 + 5) < (Z.1 : Int)) : m_run Z (282, 1260, [(4, x0), (2, ((r1 : Nat) : Int)), l2, (2, ((r3 : Nat) : Int)), (0, x4), l5, l6], [], h) = (m_cl Z 266 [(2, ((r1 : Nat) : Int)), (0, (Z.2 (w32 (x4 + 1)).toNat).toInt), (0, (Z.2 (w32 (x4 + 2)).toNat).toInt), (0, (Z.2 (w32 (x4 + 3)).toNat).toInt), (0, (Z.2 (w32 (x4 + 4)).toNat).toInt), (0, (Z.2 (w32 (x4 + 5)).toNat).toInt), (2, ((r3 : Nat) : Int))] h).bind (m_aft (m_run Z) 282 1292 [(4, x0), (2, ((r1 : Nat) : Int)), l2, (2, ((r3 : Nat) : Int)), (0, x4), l5, l6] []) := by
  refine g_aload_n (k := 1) (v := (2, ((r1 : Nat) : Int))) (by decide +kernel : decode (m_byt 282) 1260 = .ok (.aload_n 1, 1)) rfl (Or.inl rfl) ?_
  refine g_aload_n (k := 0) (v := (4, x0)) (by decide +kernel : decode (m_byt 282) 1261 = .ok (.aload_n 0, 1)) rfl (Or.inr (Or.inr rfl)) ?_
  refine g_iload (k := 4) (x := x4) (by decide +kernel : decode (m_byt 282) 1262 = .ok (.iload 4, 2)) rfl ?_
  refine g_base (by decide +kernel : decode (m_byt 282) 1264 = .ok (.iconst 1, 1)) rfl rfl ?_
  show m_run Z (282, 1265, [(4, x0), (2, ((r1 : Nat) : Int)), l2, (2, ((r3 : Nat) : Int)), (0, x4), l5, l6], [(0, 1), (0, x4), (4, x0), (2, ((r1 : Nat) : Int))], h) = _
  refine g_base (by decide +kernel : decode (m_byt 282) 1265 = .ok (.iadd, 1)) rfl rfl ?_
  show m_run Z (282, 1266, [(4, x0), (2, ((r1 : Nat) : Int)), l2, (2, ((r3 : Nat) : Int)), (0, x4), l5, l6], [(0, (x4 + 1)), (4, x0), (2, ((r1 : Nat) : Int))], h) = _
  refine g_sald (by decide +kernel : decode (m_byt 282) 1266 = .ok (.iaload, 1)) h0 h1 ?_
  refine g_aload_n (k := 0) (v := (4, x0)) (by decide +kernel : decode (m_byt 282) 1267 = .ok (.aload_n 0, 1)) rfl (Or.inr (Or.inr rfl)) ?_
  refine g_iload (k := 4) (x := x4) (by decide +kernel : decode (m_byt 282) 1268 = .ok (.iload 4, 2)) rfl ?_
  refine g_base (by decide +kernel : decode (m_byt 282) 1270 = .ok (.iconst 2, 1)) rfl rfl ?_
  show m_run Z (282, 1271, [(4, x0), (2, ((r1 : Nat) : Int)), l2, (2, ((r3 : Nat) : Int)), (0, x4), l5, l6], [(0, 2), (0, x4), (4, x0), (0, (Z.2 (w32 (x4 + 1)).toNat).toInt), (2, ((r1 : Nat) : Int))], h) = _
  refine g_base (by decide +kernel : decode (m_byt 282) 1271 = .ok (.iadd, 1)) rfl rfl ?_
  show m_run Z (282, 1272, [(4, x0), (2, ((r1 : Nat) : Int)), l2, (2, ((r3 : Nat) : Int)), (0, x4), l5, l6], [(0, (x4 + 2)), (4, x0), (0, (Z.2 (w32 (x4 + 1)).toNat).toInt), (2, ((r1 : Nat) : Int))], h) = _
  refine g_sald (by decide +kernel : decode (m_byt 282) 1272 = .ok (.iaload, 1)) h2 h3 ?_
  refine g_aload_n (k := 0) (v := (4, x0)) (by decide +kernel : decode (m_byt 282) 1273 = .ok (.aload_n 0, 1)) rfl (Or.inr (Or.inr rfl)) ?_
  refine g_iload (k := 4) (x := x4) (by decide +kernel : decode (m_byt 282) 1274 = .ok (.iload 4, 2)) rfl ?_
  refine g_base (by decide +kernel : decode (m_byt 282) 1276 = .ok (.iconst 3, 1)) rfl rfl ?_
  show m_run Z (282, 1277, [(4, x0), (2, ((r1 : Nat) : Int)), l2, (2, ((r3 : Nat) : Int)), (0, x4), l5, l6], [(0, 3), (0, x4), (4, x0), (0, (Z.2 (w32 (x4 + 2)).toNat).toInt), (0, (Z.2 (w32 (x4 + 1)).toNat).toInt), (2, ((r1 : Nat) : Int))], h) = _
  refine g_base (by decide +kernel : decode (m_byt 282) 1277 = .ok (.iadd, 1)) rfl rfl ?_
  show m_run Z (282, 1278, [(4, x0), (2, ((r1 : Nat) : Int)), l2, (2, ((r3 : Nat) : Int)), (0, x4), l5, l6], [(0, (x4 + 3)), (4, x0), (0, (Z.2 (w32 (x4 + 2)).toNat).toInt), (0, (Z.2 (w32 (x4 + 1)).toNat).toInt), (2, ((r1 : Nat) : Int))], h) = _
  refine g_sald (by decide +kernel : decode (m_byt 282) 1278 = .ok (.iaload, 1)) h4 h5 ?_
  refine g_aload_n (k := 0) (v := (4, x0)) (by decide +kernel : decode (m_byt 282) 1279 = .ok (.aload_n 0, 1)) rfl (Or.inr (Or.inr rfl)) ?_
  refine g_iload (k := 4) (x := x4) (by decide +kernel : decode (m_byt 282) 1280 = .ok (.iload 4, 2)) rfl ?_
  refine g_base (by decide +kernel : decode (m_byt 282) 1282 = .ok (.iconst 4, 1)) rfl rfl ?_
  show m_run Z (282, 1283, [(4, x0), (2, ((r1 : Nat) : Int)), l2, (2, ((r3 : Nat) : Int)), (0, x4), l5, l6], [(0, 4), (0, x4), (4, x0), (0, (Z.2 (w32 (x4 + 3)).toNat).toInt), (0, (Z.2 (w32 (x4 + 2)).toNat).toInt), (0, (Z.2 (w32 (x4 + 1)).toNat).toInt), (2, ((r1 : Nat) : Int))], h) = _
  refine g_base (by decide +kernel : decode (m_byt 282) 1283 = .ok (.iadd, 1)) rfl rfl ?_
  show m_run Z (282, 1284, [(4, x0), (2, ((r1 : Nat) : Int)), l2, (2, ((r3 : Nat) : Int)), (0, x4), l5, l6], [(0, (x4 + 4)), (4, x0), (0, (Z.2 (w32 (x4 + 3)).toNat).toInt), (0, (Z.2 (w32 (x4 + 2)).toNat).toInt), (0, (Z.2 (w32 (x4 + 1)).toNat).toInt), (2, ((r1 : Nat) : Int))], h) = _
  refine g_sald (by decide +kernel : decode (m_byt 282) 1284 = .ok (.iaload, 1)) h6 h7 ?_
  refine g_aload_n (k := 0) (v := (4, x0)) (by decide +kernel : decode (m_byt 282) 1285 = .ok (.aload_n 0, 1)) rfl (Or.inr (Or.inr rfl)) ?_
  refine g_iload (k := 4) (x := x4) (by decide +kernel : decode (m_byt 282) 1286 = .ok (.iload 4, 2)) rfl ?_
  refine g_base (by decide +kernel : decode (m_byt 282) 1288 = .ok (.iconst 5, 1)) rfl rfl ?_
  show m_run Z (282, 1289, [(4, x0), (2, ((r1 : Nat) : Int)), l2, (2, ((r3 : Nat) : Int)), (0, x4), l5, l6], [(0, 5), (0, x4), (4, x0), (0, (Z.2 (w32 (x4 + 4)).toNat).toInt), (0, (Z.2 (w32 (x4 + 3)).toNat).toInt), (0, (Z.2 (w32 (x4 + 2)).toNat).toInt), (0, (Z.2 (w32 (x4 + 1)).toNat).toInt), (2, ((r1 : Nat) : Int))], h) = _
  refine g_base (by decide +kernel : decode (m_byt 282) 1289 = .ok (.iadd, 1)) rfl rfl ?_
  show m_run Z (282, 1290, [(4, x0), (2, ((r1 : Nat) : Int)), l2, (2, ((r3 : Nat) : Int)), (0, x4), l5, l6], [(0, (x4 + 5)), (4, x0), (0, (Z.2 (w32 (x4 + 4)).toNat).toInt), (0, (Z.2 (w32 (x4 + 3)).toNat).toInt), (0, (Z.2 (w32 (x4 + 2)).toNat).toInt), (0, (Z.2 (w32 (x4 + 1)).toNat).toInt), (2, ((r1 : Nat) : Int))], h) = _
  refine g_sald (by decide +kernel : decode (m_byt 282) 1290 = .ok (.iaload, 1)) h8 h9 ?_
  refine g_aload_n (k := 3) (v := (2, ((r3 : Nat) : Int))) (by decide +kernel : decode (m_byt 282) 1291 = .ok (.aload_n 3, 1)) rfl (Or.inl rfl) ?_
  exact g_inv (k := 0) (m' := 266) (np := 7) (as := [(2, ((r1 : Nat) : Int)), (0, (Z.2 (w32 (x4 + 1)).toNat).toInt), (0, (Z.2 (w32 (x4 + 2)).toNat).toInt), (0, (Z.2 (w32 (x4 + 3)).toNat).toInt), (0, (Z.2 (w32 (x4 + 4)).toNat).toInt), (0, (Z.2 (w32 (x4 + 5)).toNat).toInt), (2, ((r3 : Nat) : Int))]) (by decide +kernel : decode (m_byt 282) 1292 = .ok (.invokestatic 177, 3)) (Or.inr (Or.inr ⟨rfl, rfl, by decide, by decide⟩)) (by decide +kernel) (by decide +kernel) (by decide +kernel) (Nat.le_of_ble_eq_true rfl) rfl (Or.inl rfl)
theorem b_282_1295 {Z : mZ} {l1 l3 l5 l6 : mV} {s0 x4 x0 : Int} {r2 : Nat} {K : Nat → mK} {σ : Nat → Nat → Int} {n e s : Nat} (h0 : 0 ≤ w32 (x4 + 1)) (h1 : w32 (x4 + 1) < (Z.1 : Int)) (h2 : 0 ≤ w32 (x4 + 2)) (h3 : w32 (x4 + 2) < (Z.1 : Int)) (h4 : 0 ≤ w32 (x4 + 3)) (h5 : w32 (x4 + 3) < (Z.1 : Int)) (h6 : 0 ≤ w32 (x4 + 4)) (h7 : w32 (x4 + 4) < (Z.1 : Int)) (h8 : 0 ≤ w32 (x4 + 5)) (h9 : w32 (x4 + 5) < (Z.1 : Int)) (h10 : q_ob K n r2 7) : m_run Z (282, 1295, [(4, x0), l1, (2, ((r2 : Nat) : Int)), l3, (0, x4), l5, l6], [(0, s0)], (K, σ, n, e, s)) = (m_cl Z 203 [(2, ((r2 : Nat) : Int)), (0, (Z.2 (w32 (x4 + 1)).toNat).toInt), (0, (Z.2 (w32 (x4 + 2)).toNat).toInt), (0, (Z.2 (w32 (x4 + 3)).toNat).toInt), (0, (Z.2 (w32 (x4 + 4)).toNat).toInt), (0, (Z.2 (w32 (x4 + 5)).toNat).toInt)] (K, σ, n, e, s)).bind (m_aft (m_run Z) 282 1328 [(4, x0), l1, (2, ((r2 : Nat) : Int)), l3, (0, x4), (0, s0), l6] []) := by
  refine g_istore (k := 5) (by decide +kernel : decode (m_byt 282) 1295 = .ok (.istore 5, 2)) (Nat.le_of_ble_eq_true rfl) ?_
  show m_run Z (282, 1297, [(4, x0), l1, (2, ((r2 : Nat) : Int)), l3, (0, x4), (0, s0), l6], [], (K, σ, n, e, s)) = _
  refine g_aload_n (k := 2) (v := (2, ((r2 : Nat) : Int))) (by decide +kernel : decode (m_byt 282) 1297 = .ok (.aload_n 2, 1)) rfl (Or.inl rfl) ?_
  refine g_aload_n (k := 0) (v := (4, x0)) (by decide +kernel : decode (m_byt 282) 1298 = .ok (.aload_n 0, 1)) rfl (Or.inr (Or.inr rfl)) ?_
  refine g_iload (k := 4) (x := x4) (by decide +kernel : decode (m_byt 282) 1299 = .ok (.iload 4, 2)) rfl ?_
  refine g_base (by decide +kernel : decode (m_byt 282) 1301 = .ok (.iconst 1, 1)) rfl rfl ?_
  show m_run Z (282, 1302, [(4, x0), l1, (2, ((r2 : Nat) : Int)), l3, (0, x4), (0, s0), l6], [(0, 1), (0, x4), (4, x0), (2, ((r2 : Nat) : Int))], (K, σ, n, e, s)) = _
  refine g_base (by decide +kernel : decode (m_byt 282) 1302 = .ok (.iadd, 1)) rfl rfl ?_
  show m_run Z (282, 1303, [(4, x0), l1, (2, ((r2 : Nat) : Int)), l3, (0, x4), (0, s0), l6], [(0, (x4 + 1)), (4, x0), (2, ((r2 : Nat) : Int))], (K, σ, n, e, s)) = _
  refine g_sald (by decide +kernel : decode (m_byt 282) 1303 = .ok (.iaload, 1)) h0 h1 ?_
  refine g_aload_n (k := 0) (v := (4, x0)) (by decide +kernel : decode (m_byt 282) 1304 = .ok (.aload_n 0, 1)) rfl (Or.inr (Or.inr rfl)) ?_
  refine g_iload (k := 4) (x := x4) (by decide +kernel : decode (m_byt 282) 1305 = .ok (.iload 4, 2)) rfl ?_
  refine g_base (by decide +kernel : decode (m_byt 282) 1307 = .ok (.iconst 2, 1)) rfl rfl ?_
  show m_run Z (282, 1308, [(4, x0), l1, (2, ((r2 : Nat) : Int)), l3, (0, x4), (0, s0), l6], [(0, 2), (0, x4), (4, x0), (0, (Z.2 (w32 (x4 + 1)).toNat).toInt), (2, ((r2 : Nat) : Int))], (K, σ, n, e, s)) = _
  refine g_base (by decide +kernel : decode (m_byt 282) 1308 = .ok (.iadd, 1)) rfl rfl ?_
  show m_run Z (282, 1309, [(4, x0), l1, (2, ((r2 : Nat) : Int)), l3, (0, x4), (0, s0), l6], [(0, (x4 + 2)), (4, x0), (0, (Z.2 (w32 (x4 + 1)).toNat).toInt), (2, ((r2 : Nat) : Int))], (K, σ, n, e, s)) = _
  refine g_sald (by decide +kernel : decode (m_byt 282) 1309 = .ok (.iaload, 1)) h2 h3 ?_
  refine g_aload_n (k := 0) (v := (4, x0)) (by decide +kernel : decode (m_byt 282) 1310 = .ok (.aload_n 0, 1)) rfl (Or.inr (Or.inr rfl)) ?_
  refine g_iload (k := 4) (x := x4) (by decide +kernel : decode (m_byt 282) 1311 = .ok (.iload 4, 2)) rfl ?_
  refine g_base (by decide +kernel : decode (m_byt 282) 1313 = .ok (.iconst 3, 1)) rfl rfl ?_
  show m_run Z (282, 1314, [(4, x0), l1, (2, ((r2 : Nat) : Int)), l3, (0, x4), (0, s0), l6], [(0, 3), (0, x4), (4, x0), (0, (Z.2 (w32 (x4 + 2)).toNat).toInt), (0, (Z.2 (w32 (x4 + 1)).toNat).toInt), (2, ((r2 : Nat) : Int))], (K, σ, n, e, s)) = _
  refine g_base (by decide +kernel : decode (m_byt 282) 1314 = .ok (.iadd, 1)) rfl rfl ?_
  show m_run Z (282, 1315, [(4, x0), l1, (2, ((r2 : Nat) : Int)), l3, (0, x4), (0, s0), l6], [(0, (x4 + 3)), (4, x0), (0, (Z.2 (w32 (x4 + 2)).toNat).toInt), (0, (Z.2 (w32 (x4 + 1)).toNat).toInt), (2, ((r2 : Nat) : Int))], (K, σ, n, e, s)) = _
  refine g_sald (by decide +kernel : decode (m_byt 282) 1315 = .ok (.iaload, 1)) h4 h5 ?_
  refine g_aload_n (k := 0) (v := (4, x0)) (by decide +kernel : decode (m_byt 282) 1316 = .ok (.aload_n 0, 1)) rfl (Or.inr (Or.inr rfl)) ?_
  refine g_iload (k := 4) (x := x4) (by decide +kernel : decode (m_byt 282) 1317 = .ok (.iload 4, 2)) rfl ?_
  refine g_base (by decide +kernel : decode (m_byt 282) 1319 = .ok (.iconst 4, 1)) rfl rfl ?_
  show m_run Z (282, 1320, [(4, x0), l1, (2, ((r2 : Nat) : Int)), l3, (0, x4), (0, s0), l6], [(0, 4), (0, x4), (4, x0), (0, (Z.2 (w32 (x4 + 3)).toNat).toInt), (0, (Z.2 (w32 (x4 + 2)).toNat).toInt), (0, (Z.2 (w32 (x4 + 1)).toNat).toInt), (2, ((r2 : Nat) : Int))], (K, σ, n, e, s)) = _
  refine g_base (by decide +kernel : decode (m_byt 282) 1320 = .ok (.iadd, 1)) rfl rfl ?_
  show m_run Z (282, 1321, [(4, x0), l1, (2, ((r2 : Nat) : Int)), l3, (0, x4), (0, s0), l6], [(0, (x4 + 4)), (4, x0), (0, (Z.2 (w32 (x4 + 3)).toNat).toInt), (0, (Z.2 (w32 (x4 + 2)).toNat).toInt), (0, (Z.2 (w32 (x4 + 1)).toNat).toInt), (2, ((r2 : Nat) : Int))], (K, σ, n, e, s)) = _
  refine g_sald (by decide +kernel : decode (m_byt 282) 1321 = .ok (.iaload, 1)) h6 h7 ?_
  refine g_aload_n (k := 0) (v := (4, x0)) (by decide +kernel : decode (m_byt 282) 1322 = .ok (.aload_n 0, 1)) rfl (Or.inr (Or.inr rfl)) ?_
  refine g_iload (k := 4) (x := x4) (by decide +kernel : decode (m_byt 282) 1323 = .ok (.iload 4, 2)) rfl ?_
  refine g_base (by decide +kernel : decode (m_byt 282) 1325 = .ok (.iconst 5, 1)) rfl rfl ?_
  show m_run Z (282, 1326, [(4, x0), l1, (2, ((r2 : Nat) : Int)), l3, (0, x4), (0, s0), l6], [(0, 5), (0, x4), (4, x0), (0, (Z.2 (w32 (x4 + 4)).toNat).toInt), (0, (Z.2 (w32 (x4 + 3)).toNat).toInt), (0, (Z.2 (w32 (x4 + 2)).toNat).toInt), (0, (Z.2 (w32 (x4 + 1)).toNat).toInt), (2, ((r2 : Nat) : Int))], (K, σ, n, e, s)) = _
  refine g_base (by decide +kernel : decode (m_byt 282) 1326 = .ok (.iadd, 1)) rfl rfl ?_
  show m_run Z (282, 1327, [(4, x0), l1, (2, ((r2 : Nat) : Int)), l3, (0, x4), (0, s0), l6], [(0, (x4 + 5)), (4, x0), (0, (Z.2 (w32 (x4 + 4)).toNat).toInt), (0, (Z.2 (w32 (x4 + 3)).toNat).toInt), (0, (Z.2 (w32 (x4 + 2)).toNat).toInt), (0, (Z.2 (w32 (x4 + 1)).toNat).toInt), (2, ((r2 : Nat) : Int))], (K, σ, n, e, s)) = _
  refine g_sald (by decide +kernel : decode (m_byt 282) 1327 = .ok (.iaload, 1)) h8 h9 ?_
  exact g_inv (k := 1) (m' := 203) (np := 5) (as := [(2, ((r2 : Nat) : Int)), (0, (Z.2 (w32 (x4 + 1)).toNat).toInt), (0, (Z.2 (w32 (x4 + 2)).toNat).toInt), (0, (Z.2 (w32 (x4 + 3)).toNat).toInt), (0, (Z.2 (w32 (x4 + 4)).toNat).toInt), (0, (Z.2 (w32 (x4 + 5)).toNat).toInt)]) (by decide +kernel : decode (m_byt 282) 1328 = .ok (.invokevirtual 179, 3)) (Or.inl ⟨rfl, rfl⟩) (by decide +kernel) (by decide +kernel) (by decide +kernel) (Nat.le_of_ble_eq_true rfl) rfl (Or.inr (g_rcv (by decide +kernel) h10))
theorem b_282_1331 {Z : mZ} {l0 l1 l3 l4 l6 : mV} {s0 x5 : Int} {r2 : Nat} {K : Nat → mK} {σ : Nat → Nat → Int} {n e s : Nat} (h0 : q_ob K n r2 7) : m_run Z (282, 1331, [l0, l1, (2, ((r2 : Nat) : Int)), l3, l4, (0, x5), l6], [(0, s0)], (K, σ, n, e, s)) = (m_cl Z 150 [(2, ((r2 : Nat) : Int))] (K, σ, n, e, s)).bind (m_aft (m_run Z) 282 1334 [l0, l1, (2, ((r2 : Nat) : Int)), l3, l4, (0, x5), (0, s0)] []) := by
  refine g_istore (k := 6) (by decide +kernel : decode (m_byt 282) 1331 = .ok (.istore 6, 2)) (Nat.le_of_ble_eq_true rfl) ?_
  show m_run Z (282, 1333, [l0, l1, (2, ((r2 : Nat) : Int)), l3, l4, (0, x5), (0, s0)], [], (K, σ, n, e, s)) = _
  refine g_aload_n (k := 2) (v := (2, ((r2 : Nat) : Int))) (by decide +kernel : decode (m_byt 282) 1333 = .ok (.aload_n 2, 1)) rfl (Or.inl rfl) ?_
  exact g_inv (k := 1) (m' := 150) (np := 0) (as := [(2, ((r2 : Nat) : Int))]) (by decide +kernel : decode (m_byt 282) 1334 = .ok (.invokevirtual 125, 3)) (Or.inl ⟨rfl, rfl⟩) (by decide +kernel) (by decide +kernel) (by decide +kernel) (Nat.le_of_ble_eq_true rfl) rfl (Or.inr (g_rcv (by decide +kernel) h0))
theorem b_282_1337 {Z : mZ} {l0 l1 l2 l3 l4 l6 : mV} {s0 x5 : Int} {h : mH} : m_run Z (282, 1337, [l0, l1, l2, l3, l4, (0, x5), l6], [(0, s0)], h) = if w32 s0 = w32 x5 then m_run Z (282, 1344, [l0, l1, l2, l3, l4, (0, x5), l6], [], h) else m_run Z (282, 1342, [l0, l1, l2, l3, l4, (0, x5), l6], [], h) := by
  refine g_iload (k := 5) (x := x5) (by decide +kernel : decode (m_byt 282) 1337 = .ok (.iload 5, 2)) rfl ?_
  exact g_brq (t := 1344) (off := 5) (by decide +kernel : decode (m_byt 282) 1339 = .ok (.if_icmp .eq 5, 3)) rfl rfl (by decide)
theorem b_282_1342 {Z : mZ} {l0 l1 l2 l3 l4 l5 l6 : mV} {h : mH} : m_run Z (282, 1342, [l0, l1, l2, l3, l4, l5, l6], [], h) = some (.inl (0, 0), h) := by
  refine g_base (by decide +kernel : decode (m_byt 282) 1342 = .ok (.iconst 0, 1)) rfl rfl ?_
  show m_run Z (282, 1343, [l0, l1, l2, l3, l4, l5, l6], [(0, 0)], h) = _
  exact g_zret (by decide +kernel : decode (m_byt 282) 1343 = .ok (.ireturn, 1)) (by decide +kernel) (by decide)
theorem b_282_1344 {Z : mZ} {l0 l1 l2 l3 l4 l6 : mV} {x5 : Int} {h : mH} : m_run Z (282, 1344, [l0, l1, l2, l3, l4, (0, x5), l6], [], h) = if w32 x5 = 0 then m_run Z (282, 1349, [l0, l1, l2, l3, l4, (0, x5), l6], [], h) else m_run Z (282, 1361, [l0, l1, l2, l3, l4, (0, x5), l6], [], h) := by
  refine g_iload (k := 5) (x := x5) (by decide +kernel : decode (m_byt 282) 1344 = .ok (.iload 5, 2)) rfl ?_
  exact g_brn (t := 1361) (off := 15) (by decide +kernel : decode (m_byt 282) 1346 = .ok (.ifCond .ne 15, 3)) rfl rfl (by decide)
theorem b_282_1349 {Z : mZ} {l0 l1 l2 l4 l5 : mV} {x6 : Int} {r3 : Nat} {K : Nat → mK} {σ : Nat → Nat → Int} {n e s : Nat} (h0 : 0 ≤ w32 0) (h1 : w32 0 < (q_ln K r3 : Int)) (h2 : q_ak K n r3 3) : m_run Z (282, 1349, [l0, l1, l2, (2, ((r3 : Nat) : Int)), l4, l5, (0, x6)], [], (K, σ, n, e, s)) = if w32 (l_cmp (σ r3 (w32 0).toNat) (w32 x6)) = 0 then m_run Z (282, 1361, [l0, l1, l2, (2, ((r3 : Nat) : Int)), l4, l5, (0, x6)], [], (K, σ, n, e, s)) else m_run Z (282, 1359, [l0, l1, l2, (2, ((r3 : Nat) : Int)), l4, l5, (0, x6)], [], (K, σ, n, e, s)) := by
  refine g_aload_n (k := 3) (v := (2, ((r3 : Nat) : Int))) (by decide +kernel : decode (m_byt 282) 1349 = .ok (.aload_n 3, 1)) rfl (Or.inl rfl) ?_
  refine g_base (by decide +kernel : decode (m_byt 282) 1350 = .ok (.iconst 0, 1)) rfl rfl ?_
  show m_run Z (282, 1351, [l0, l1, l2, (2, ((r3 : Nat) : Int)), l4, l5, (0, x6)], [(0, 0), (2, ((r3 : Nat) : Int))], (K, σ, n, e, s)) = _
  refine g_lald (by decide +kernel : decode (m_byt 282) 1351 = .ok (.laload, 1)) h2 h0 h1 ?_
  refine g_iload (k := 6) (x := x6) (by decide +kernel : decode (m_byt 282) 1352 = .ok (.iload 6, 2)) rfl ?_
  refine g_base (by decide +kernel : decode (m_byt 282) 1354 = .ok (.i2l, 1)) rfl rfl ?_
  show m_run Z (282, 1355, [l0, l1, l2, (2, ((r3 : Nat) : Int)), l4, l5, (0, x6)], [(1, (w32 x6)), (1, (σ r3 (w32 0).toNat))], (K, σ, n, e, s)) = _
  refine g_base (by decide +kernel : decode (m_byt 282) 1355 = .ok (.lcmp, 1)) rfl rfl ?_
  show m_run Z (282, 1356, [l0, l1, l2, (2, ((r3 : Nat) : Int)), l4, l5, (0, x6)], [(0, (l_cmp (σ r3 (w32 0).toNat) (w32 x6)))], (K, σ, n, e, s)) = _
  exact g_brq (t := 1361) (off := 5) (by decide +kernel : decode (m_byt 282) 1356 = .ok (.ifCond .eq 5, 3)) rfl rfl (by decide)
theorem b_282_1359 {Z : mZ} {l0 l1 l2 l3 l4 l5 l6 : mV} {h : mH} : m_run Z (282, 1359, [l0, l1, l2, l3, l4, l5, l6], [], h) = some (.inl (0, 0), h) := by
  refine g_base (by decide +kernel : decode (m_byt 282) 1359 = .ok (.iconst 0, 1)) rfl rfl ?_
  show m_run Z (282, 1360, [l0, l1, l2, l3, l4, l5, l6], [(0, 0)], h) = _
  exact g_zret (by decide +kernel : decode (m_byt 282) 1360 = .ok (.ireturn, 1)) (by decide +kernel) (by decide)
theorem b_282_1361 {Z : mZ} {l0 l1 l2 l5 l6 : mV} {x4 : Int} {r3 : Nat} {h : mH} : m_run Z (282, 1361, [l0, l1, l2, (2, ((r3 : Nat) : Int)), (0, x4), l5, l6], [], h) = m_run Z (282, 23, [l0, l1, l2, (2, ((r3 : Nat) : Int)), (0, x4 + 6), l5, l6], [], h) := by
  refine g_jmp (t := 2388) (by decide +kernel : decode (m_byt 282) 1361 = .ok (.goto 1027, 3)) (by decide) ?_
  refine g_iinc (k := 4) (x := x4) (by decide +kernel : decode (m_byt 282) 2388 = .ok (.iinc 4 6, 3)) rfl (Nat.le_of_ble_eq_true rfl) ?_
  show m_run Z (282, 2391, [l0, l1, l2, (2, ((r3 : Nat) : Int)), (0, x4 + 6), l5, l6], [], h) = _
  refine g_jmp (t := 23) (by decide +kernel : decode (m_byt 282) 2391 = .ok (.goto (-2368), 3)) (by decide) ?_
  rfl
theorem b_282_1364 {Z : mZ} {l2 l5 l6 : mV} {x0 x4 : Int} {r1 r3 : Nat} {h : mH} (h0 : 0 ≤ w32 (x4 + 1)) (h1 : w32 (x4 + 1) < (Z.1 : Int)) (h2 : 0 ≤ w32 (x4 + 2)) (h3 : w32 (x4 + 2) < (Z.1 : Int)) (h4 : 0 ≤ w32 (x4 + 3)) (h5 : w32 (x4 + 3) < (Z.1 : Int)) (h6 : 0 ≤ w32 (x4 + 4)) (h7 : w32 (x4 + 4) < (Z.1 : Int)) : m_run Z (282, 1364, [(4, x0), (2, ((r1 : Nat) : Int)), l2, (2, ((r3 : Nat) : Int)), (0, x4), l5, l6], [], h) = (m_cl Z 267 [(2, ((r1 : Nat) : Int)), (0, (Z.2 (w32 (x4 + 1)).toNat).toInt), (0, (Z.2 (w32 (x4 + 2)).toNat).toInt), (0, (Z.2 (w32 (x4 + 3)).toNat).toInt), (0, (Z.2 (w32 (x4 + 4)).toNat).toInt), (2, ((r3 : Nat) : Int))] h).bind (m_aft (m_run Z) 282 1390 [(4, x0), (2, ((r1 : Nat) : Int)), l2, (2, ((r3 : Nat) : Int)), (0, x4), l5, l6] []) := by
  refine g_aload_n (k := 1) (v := (2, ((r1 : Nat) : Int))) (by decide +kernel : decode (m_byt 282) 1364 = .ok (.aload_n 1, 1)) rfl (Or.inl rfl) ?_
  refine g_aload_n (k := 0) (v := (4, x0)) (by decide +kernel : decode (m_byt 282) 1365 = .ok (.aload_n 0, 1)) rfl (Or.inr (Or.inr rfl)) ?_
  refine g_iload (k := 4) (x := x4) (by decide +kernel : decode (m_byt 282) 1366 = .ok (.iload 4, 2)) rfl ?_
  refine g_base (by decide +kernel : decode (m_byt 282) 1368 = .ok (.iconst 1, 1)) rfl rfl ?_
  show m_run Z (282, 1369, [(4, x0), (2, ((r1 : Nat) : Int)), l2, (2, ((r3 : Nat) : Int)), (0, x4), l5, l6], [(0, 1), (0, x4), (4, x0), (2, ((r1 : Nat) : Int))], h) = _
  refine g_base (by decide +kernel : decode (m_byt 282) 1369 = .ok (.iadd, 1)) rfl rfl ?_
  show m_run Z (282, 1370, [(4, x0), (2, ((r1 : Nat) : Int)), l2, (2, ((r3 : Nat) : Int)), (0, x4), l5, l6], [(0, (x4 + 1)), (4, x0), (2, ((r1 : Nat) : Int))], h) = _
  refine g_sald (by decide +kernel : decode (m_byt 282) 1370 = .ok (.iaload, 1)) h0 h1 ?_
  refine g_aload_n (k := 0) (v := (4, x0)) (by decide +kernel : decode (m_byt 282) 1371 = .ok (.aload_n 0, 1)) rfl (Or.inr (Or.inr rfl)) ?_
  refine g_iload (k := 4) (x := x4) (by decide +kernel : decode (m_byt 282) 1372 = .ok (.iload 4, 2)) rfl ?_
  refine g_base (by decide +kernel : decode (m_byt 282) 1374 = .ok (.iconst 2, 1)) rfl rfl ?_
  show m_run Z (282, 1375, [(4, x0), (2, ((r1 : Nat) : Int)), l2, (2, ((r3 : Nat) : Int)), (0, x4), l5, l6], [(0, 2), (0, x4), (4, x0), (0, (Z.2 (w32 (x4 + 1)).toNat).toInt), (2, ((r1 : Nat) : Int))], h) = _
  refine g_base (by decide +kernel : decode (m_byt 282) 1375 = .ok (.iadd, 1)) rfl rfl ?_
  show m_run Z (282, 1376, [(4, x0), (2, ((r1 : Nat) : Int)), l2, (2, ((r3 : Nat) : Int)), (0, x4), l5, l6], [(0, (x4 + 2)), (4, x0), (0, (Z.2 (w32 (x4 + 1)).toNat).toInt), (2, ((r1 : Nat) : Int))], h) = _
  refine g_sald (by decide +kernel : decode (m_byt 282) 1376 = .ok (.iaload, 1)) h2 h3 ?_
  refine g_aload_n (k := 0) (v := (4, x0)) (by decide +kernel : decode (m_byt 282) 1377 = .ok (.aload_n 0, 1)) rfl (Or.inr (Or.inr rfl)) ?_
  refine g_iload (k := 4) (x := x4) (by decide +kernel : decode (m_byt 282) 1378 = .ok (.iload 4, 2)) rfl ?_
  refine g_base (by decide +kernel : decode (m_byt 282) 1380 = .ok (.iconst 3, 1)) rfl rfl ?_
  show m_run Z (282, 1381, [(4, x0), (2, ((r1 : Nat) : Int)), l2, (2, ((r3 : Nat) : Int)), (0, x4), l5, l6], [(0, 3), (0, x4), (4, x0), (0, (Z.2 (w32 (x4 + 2)).toNat).toInt), (0, (Z.2 (w32 (x4 + 1)).toNat).toInt), (2, ((r1 : Nat) : Int))], h) = _
  refine g_base (by decide +kernel : decode (m_byt 282) 1381 = .ok (.iadd, 1)) rfl rfl ?_
  show m_run Z (282, 1382, [(4, x0), (2, ((r1 : Nat) : Int)), l2, (2, ((r3 : Nat) : Int)), (0, x4), l5, l6], [(0, (x4 + 3)), (4, x0), (0, (Z.2 (w32 (x4 + 2)).toNat).toInt), (0, (Z.2 (w32 (x4 + 1)).toNat).toInt), (2, ((r1 : Nat) : Int))], h) = _
  refine g_sald (by decide +kernel : decode (m_byt 282) 1382 = .ok (.iaload, 1)) h4 h5 ?_
  refine g_aload_n (k := 0) (v := (4, x0)) (by decide +kernel : decode (m_byt 282) 1383 = .ok (.aload_n 0, 1)) rfl (Or.inr (Or.inr rfl)) ?_
  refine g_iload (k := 4) (x := x4) (by decide +kernel : decode (m_byt 282) 1384 = .ok (.iload 4, 2)) rfl ?_
  refine g_base (by decide +kernel : decode (m_byt 282) 1386 = .ok (.iconst 4, 1)) rfl rfl ?_
  show m_run Z (282, 1387, [(4, x0), (2, ((r1 : Nat) : Int)), l2, (2, ((r3 : Nat) : Int)), (0, x4), l5, l6], [(0, 4), (0, x4), (4, x0), (0, (Z.2 (w32 (x4 + 3)).toNat).toInt), (0, (Z.2 (w32 (x4 + 2)).toNat).toInt), (0, (Z.2 (w32 (x4 + 1)).toNat).toInt), (2, ((r1 : Nat) : Int))], h) = _
  refine g_base (by decide +kernel : decode (m_byt 282) 1387 = .ok (.iadd, 1)) rfl rfl ?_
  show m_run Z (282, 1388, [(4, x0), (2, ((r1 : Nat) : Int)), l2, (2, ((r3 : Nat) : Int)), (0, x4), l5, l6], [(0, (x4 + 4)), (4, x0), (0, (Z.2 (w32 (x4 + 3)).toNat).toInt), (0, (Z.2 (w32 (x4 + 2)).toNat).toInt), (0, (Z.2 (w32 (x4 + 1)).toNat).toInt), (2, ((r1 : Nat) : Int))], h) = _
  refine g_sald (by decide +kernel : decode (m_byt 282) 1388 = .ok (.iaload, 1)) h6 h7 ?_
  refine g_aload_n (k := 3) (v := (2, ((r3 : Nat) : Int))) (by decide +kernel : decode (m_byt 282) 1389 = .ok (.aload_n 3, 1)) rfl (Or.inl rfl) ?_
  exact g_inv (k := 0) (m' := 267) (np := 6) (as := [(2, ((r1 : Nat) : Int)), (0, (Z.2 (w32 (x4 + 1)).toNat).toInt), (0, (Z.2 (w32 (x4 + 2)).toNat).toInt), (0, (Z.2 (w32 (x4 + 3)).toNat).toInt), (0, (Z.2 (w32 (x4 + 4)).toNat).toInt), (2, ((r3 : Nat) : Int))]) (by decide +kernel : decode (m_byt 282) 1390 = .ok (.invokestatic 180, 3)) (Or.inr (Or.inr ⟨rfl, rfl, by decide, by decide⟩)) (by decide +kernel) (by decide +kernel) (by decide +kernel) (Nat.le_of_ble_eq_true rfl) rfl (Or.inl rfl)
theorem b_282_1393 {Z : mZ} {l1 l3 l5 l6 : mV} {s0 x4 x0 : Int} {r2 : Nat} {K : Nat → mK} {σ : Nat → Nat → Int} {n e s : Nat} (h0 : 0 ≤ w32 (x4 + 1)) (h1 : w32 (x4 + 1) < (Z.1 : Int)) (h2 : 0 ≤ w32 (x4 + 2)) (h3 : w32 (x4 + 2) < (Z.1 : Int)) (h4 : 0 ≤ w32 (x4 + 3)) (h5 : w32 (x4 + 3) < (Z.1 : Int)) (h6 : 0 ≤ w32 (x4 + 4)) (h7 : w32 (x4 + 4) < (Z.1 : Int)) (h8 : q_ob K n r2 7) : m_run Z (282, 1393, [(4, x0), l1, (2, ((r2 : Nat) : Int)), l3, (0, x4), l5, l6], [(0, s0)], (K, σ, n, e, s)) = (m_cl Z 204 [(2, ((r2 : Nat) : Int)), (0, (Z.2 (w32 (x4 + 1)).toNat).toInt), (0, (Z.2 (w32 (x4 + 2)).toNat).toInt), (0, (Z.2 (w32 (x4 + 3)).toNat).toInt), (0, (Z.2 (w32 (x4 + 4)).toNat).toInt)] (K, σ, n, e, s)).bind (m_aft (m_run Z) 282 1420 [(4, x0), l1, (2, ((r2 : Nat) : Int)), l3, (0, x4), (0, s0), l6] []) := by
  refine g_istore (k := 5) (by decide +kernel : decode (m_byt 282) 1393 = .ok (.istore 5, 2)) (Nat.le_of_ble_eq_true rfl) ?_
  show m_run Z (282, 1395, [(4, x0), l1, (2, ((r2 : Nat) : Int)), l3, (0, x4), (0, s0), l6], [], (K, σ, n, e, s)) = _
  refine g_aload_n (k := 2) (v := (2, ((r2 : Nat) : Int))) (by decide +kernel : decode (m_byt 282) 1395 = .ok (.aload_n 2, 1)) rfl (Or.inl rfl) ?_
  refine g_aload_n (k := 0) (v := (4, x0)) (by decide +kernel : decode (m_byt 282) 1396 = .ok (.aload_n 0, 1)) rfl (Or.inr (Or.inr rfl)) ?_
  refine g_iload (k := 4) (x := x4) (by decide +kernel : decode (m_byt 282) 1397 = .ok (.iload 4, 2)) rfl ?_
  refine g_base (by decide +kernel : decode (m_byt 282) 1399 = .ok (.iconst 1, 1)) rfl rfl ?_
  show m_run Z (282, 1400, [(4, x0), l1, (2, ((r2 : Nat) : Int)), l3, (0, x4), (0, s0), l6], [(0, 1), (0, x4), (4, x0), (2, ((r2 : Nat) : Int))], (K, σ, n, e, s)) = _
  refine g_base (by decide +kernel : decode (m_byt 282) 1400 = .ok (.iadd, 1)) rfl rfl ?_
  show m_run Z (282, 1401, [(4, x0), l1, (2, ((r2 : Nat) : Int)), l3, (0, x4), (0, s0), l6], [(0, (x4 + 1)), (4, x0), (2, ((r2 : Nat) : Int))], (K, σ, n, e, s)) = _
  refine g_sald (by decide +kernel : decode (m_byt 282) 1401 = .ok (.iaload, 1)) h0 h1 ?_
  refine g_aload_n (k := 0) (v := (4, x0)) (by decide +kernel : decode (m_byt 282) 1402 = .ok (.aload_n 0, 1)) rfl (Or.inr (Or.inr rfl)) ?_
  refine g_iload (k := 4) (x := x4) (by decide +kernel : decode (m_byt 282) 1403 = .ok (.iload 4, 2)) rfl ?_
  refine g_base (by decide +kernel : decode (m_byt 282) 1405 = .ok (.iconst 2, 1)) rfl rfl ?_
  show m_run Z (282, 1406, [(4, x0), l1, (2, ((r2 : Nat) : Int)), l3, (0, x4), (0, s0), l6], [(0, 2), (0, x4), (4, x0), (0, (Z.2 (w32 (x4 + 1)).toNat).toInt), (2, ((r2 : Nat) : Int))], (K, σ, n, e, s)) = _
  refine g_base (by decide +kernel : decode (m_byt 282) 1406 = .ok (.iadd, 1)) rfl rfl ?_
  show m_run Z (282, 1407, [(4, x0), l1, (2, ((r2 : Nat) : Int)), l3, (0, x4), (0, s0), l6], [(0, (x4 + 2)), (4, x0), (0, (Z.2 (w32 (x4 + 1)).toNat).toInt), (2, ((r2 : Nat) : Int))], (K, σ, n, e, s)) = _
  refine g_sald (by decide +kernel : decode (m_byt 282) 1407 = .ok (.iaload, 1)) h2 h3 ?_
  refine g_aload_n (k := 0) (v := (4, x0)) (by decide +kernel : decode (m_byt 282) 1408 = .ok (.aload_n 0, 1)) rfl (Or.inr (Or.inr rfl)) ?_
  refine g_iload (k := 4) (x := x4) (by decide +kernel : decode (m_byt 282) 1409 = .ok (.iload 4, 2)) rfl ?_
  refine g_base (by decide +kernel : decode (m_byt 282) 1411 = .ok (.iconst 3, 1)) rfl rfl ?_
  show m_run Z (282, 1412, [(4, x0), l1, (2, ((r2 : Nat) : Int)), l3, (0, x4), (0, s0), l6], [(0, 3), (0, x4), (4, x0), (0, (Z.2 (w32 (x4 + 2)).toNat).toInt), (0, (Z.2 (w32 (x4 + 1)).toNat).toInt), (2, ((r2 : Nat) : Int))], (K, σ, n, e, s)) = _
  refine g_base (by decide +kernel : decode (m_byt 282) 1412 = .ok (.iadd, 1)) rfl rfl ?_
  show m_run Z (282, 1413, [(4, x0), l1, (2, ((r2 : Nat) : Int)), l3, (0, x4), (0, s0), l6], [(0, (x4 + 3)), (4, x0), (0, (Z.2 (w32 (x4 + 2)).toNat).toInt), (0, (Z.2 (w32 (x4 + 1)).toNat).toInt), (2, ((r2 : Nat) : Int))], (K, σ, n, e, s)) = _
  refine g_sald (by decide +kernel : decode (m_byt 282) 1413 = .ok (.iaload, 1)) h4 h5 ?_
  refine g_aload_n (k := 0) (v := (4, x0)) (by decide +kernel : decode (m_byt 282) 1414 = .ok (.aload_n 0, 1)) rfl (Or.inr (Or.inr rfl)) ?_
  refine g_iload (k := 4) (x := x4) (by decide +kernel : decode (m_byt 282) 1415 = .ok (.iload 4, 2)) rfl ?_
  refine g_base (by decide +kernel : decode (m_byt 282) 1417 = .ok (.iconst 4, 1)) rfl rfl ?_
  show m_run Z (282, 1418, [(4, x0), l1, (2, ((r2 : Nat) : Int)), l3, (0, x4), (0, s0), l6], [(0, 4), (0, x4), (4, x0), (0, (Z.2 (w32 (x4 + 3)).toNat).toInt), (0, (Z.2 (w32 (x4 + 2)).toNat).toInt), (0, (Z.2 (w32 (x4 + 1)).toNat).toInt), (2, ((r2 : Nat) : Int))], (K, σ, n, e, s)) = _
  refine g_base (by decide +kernel : decode (m_byt 282) 1418 = .ok (.iadd, 1)) rfl rfl ?_
  show m_run Z (282, 1419, [(4, x0), l1, (2, ((r2 : Nat) : Int)), l3, (0, x4), (0, s0), l6], [(0, (x4 + 4)), (4, x0), (0, (Z.2 (w32 (x4 + 3)).toNat).toInt), (0, (Z.2 (w32 (x4 + 2)).toNat).toInt), (0, (Z.2 (w32 (x4 + 1)).toNat).toInt), (2, ((r2 : Nat) : Int))], (K, σ, n, e, s)) = _
  refine g_sald (by decide +kernel : decode (m_byt 282) 1419 = .ok (.iaload, 1)) h6 h7 ?_
  exact g_inv (k := 1) (m' := 204) (np := 4) (as := [(2, ((r2 : Nat) : Int)), (0, (Z.2 (w32 (x4 + 1)).toNat).toInt), (0, (Z.2 (w32 (x4 + 2)).toNat).toInt), (0, (Z.2 (w32 (x4 + 3)).toNat).toInt), (0, (Z.2 (w32 (x4 + 4)).toNat).toInt)]) (by decide +kernel : decode (m_byt 282) 1420 = .ok (.invokevirtual 183, 3)) (Or.inl ⟨rfl, rfl⟩) (by decide +kernel) (by decide +kernel) (by decide +kernel) (Nat.le_of_ble_eq_true rfl) rfl (Or.inr (g_rcv (by decide +kernel) h8))
theorem b_282_1423 {Z : mZ} {l0 l1 l3 l4 l6 : mV} {s0 x5 : Int} {r2 : Nat} {K : Nat → mK} {σ : Nat → Nat → Int} {n e s : Nat} (h0 : q_ob K n r2 7) : m_run Z (282, 1423, [l0, l1, (2, ((r2 : Nat) : Int)), l3, l4, (0, x5), l6], [(0, s0)], (K, σ, n, e, s)) = (m_cl Z 150 [(2, ((r2 : Nat) : Int))] (K, σ, n, e, s)).bind (m_aft (m_run Z) 282 1426 [l0, l1, (2, ((r2 : Nat) : Int)), l3, l4, (0, x5), (0, s0)] []) := by
  refine g_istore (k := 6) (by decide +kernel : decode (m_byt 282) 1423 = .ok (.istore 6, 2)) (Nat.le_of_ble_eq_true rfl) ?_
  show m_run Z (282, 1425, [l0, l1, (2, ((r2 : Nat) : Int)), l3, l4, (0, x5), (0, s0)], [], (K, σ, n, e, s)) = _
  refine g_aload_n (k := 2) (v := (2, ((r2 : Nat) : Int))) (by decide +kernel : decode (m_byt 282) 1425 = .ok (.aload_n 2, 1)) rfl (Or.inl rfl) ?_
  exact g_inv (k := 1) (m' := 150) (np := 0) (as := [(2, ((r2 : Nat) : Int))]) (by decide +kernel : decode (m_byt 282) 1426 = .ok (.invokevirtual 125, 3)) (Or.inl ⟨rfl, rfl⟩) (by decide +kernel) (by decide +kernel) (by decide +kernel) (Nat.le_of_ble_eq_true rfl) rfl (Or.inr (g_rcv (by decide +kernel) h0))
theorem b_282_1429 {Z : mZ} {l0 l1 l2 l3 l4 l6 : mV} {s0 x5 : Int} {h : mH} : m_run Z (282, 1429, [l0, l1, l2, l3, l4, (0, x5), l6], [(0, s0)], h) = if w32 s0 = w32 x5 then m_run Z (282, 1436, [l0, l1, l2, l3, l4, (0, x5), l6], [], h) else m_run Z (282, 1434, [l0, l1, l2, l3, l4, (0, x5), l6], [], h) := by
  refine g_iload (k := 5) (x := x5) (by decide +kernel : decode (m_byt 282) 1429 = .ok (.iload 5, 2)) rfl ?_
  exact g_brq (t := 1436) (off := 5) (by decide +kernel : decode (m_byt 282) 1431 = .ok (.if_icmp .eq 5, 3)) rfl rfl (by decide)
theorem b_282_1434 {Z : mZ} {l0 l1 l2 l3 l4 l5 l6 : mV} {h : mH} : m_run Z (282, 1434, [l0, l1, l2, l3, l4, l5, l6], [], h) = some (.inl (0, 0), h) := by
  refine g_base (by decide +kernel : decode (m_byt 282) 1434 = .ok (.iconst 0, 1)) rfl rfl ?_
  show m_run Z (282, 1435, [l0, l1, l2, l3, l4, l5, l6], [(0, 0)], h) = _
  exact g_zret (by decide +kernel : decode (m_byt 282) 1435 = .ok (.ireturn, 1)) (by decide +kernel) (by decide)
theorem b_282_1436 {Z : mZ} {l0 l1 l2 l3 l4 l6 : mV} {x5 : Int} {h : mH} : m_run Z (282, 1436, [l0, l1, l2, l3, l4, (0, x5), l6], [], h) = if w32 x5 = 0 then m_run Z (282, 1441, [l0, l1, l2, l3, l4, (0, x5), l6], [], h) else m_run Z (282, 1453, [l0, l1, l2, l3, l4, (0, x5), l6], [], h) := by
  refine g_iload (k := 5) (x := x5) (by decide +kernel : decode (m_byt 282) 1436 = .ok (.iload 5, 2)) rfl ?_
  exact g_brn (t := 1453) (off := 15) (by decide +kernel : decode (m_byt 282) 1438 = .ok (.ifCond .ne 15, 3)) rfl rfl (by decide)
theorem b_282_1441 {Z : mZ} {l0 l1 l2 l4 l5 : mV} {x6 : Int} {r3 : Nat} {K : Nat → mK} {σ : Nat → Nat → Int} {n e s : Nat} (h0 : 0 ≤ w32 0) (h1 : w32 0 < (q_ln K r3 : Int)) (h2 : q_ak K n r3 3) : m_run Z (282, 1441, [l0, l1, l2, (2, ((r3 : Nat) : Int)), l4, l5, (0, x6)], [], (K, σ, n, e, s)) = if w32 (l_cmp (σ r3 (w32 0).toNat) (w32 x6)) = 0 then m_run Z (282, 1453, [l0, l1, l2, (2, ((r3 : Nat) : Int)), l4, l5, (0, x6)], [], (K, σ, n, e, s)) else m_run Z (282, 1451, [l0, l1, l2, (2, ((r3 : Nat) : Int)), l4, l5, (0, x6)], [], (K, σ, n, e, s)) := by
  refine g_aload_n (k := 3) (v := (2, ((r3 : Nat) : Int))) (by decide +kernel : decode (m_byt 282) 1441 = .ok (.aload_n 3, 1)) rfl (Or.inl rfl) ?_
  refine g_base (by decide +kernel : decode (m_byt 282) 1442 = .ok (.iconst 0, 1)) rfl rfl ?_
  show m_run Z (282, 1443, [l0, l1, l2, (2, ((r3 : Nat) : Int)), l4, l5, (0, x6)], [(0, 0), (2, ((r3 : Nat) : Int))], (K, σ, n, e, s)) = _
  refine g_lald (by decide +kernel : decode (m_byt 282) 1443 = .ok (.laload, 1)) h2 h0 h1 ?_
  refine g_iload (k := 6) (x := x6) (by decide +kernel : decode (m_byt 282) 1444 = .ok (.iload 6, 2)) rfl ?_
  refine g_base (by decide +kernel : decode (m_byt 282) 1446 = .ok (.i2l, 1)) rfl rfl ?_
  show m_run Z (282, 1447, [l0, l1, l2, (2, ((r3 : Nat) : Int)), l4, l5, (0, x6)], [(1, (w32 x6)), (1, (σ r3 (w32 0).toNat))], (K, σ, n, e, s)) = _
  refine g_base (by decide +kernel : decode (m_byt 282) 1447 = .ok (.lcmp, 1)) rfl rfl ?_
  show m_run Z (282, 1448, [l0, l1, l2, (2, ((r3 : Nat) : Int)), l4, l5, (0, x6)], [(0, (l_cmp (σ r3 (w32 0).toNat) (w32 x6)))], (K, σ, n, e, s)) = _
  exact g_brq (t := 1453) (off := 5) (by decide +kernel : decode (m_byt 282) 1448 = .ok (.ifCond .eq 5, 3)) rfl rfl (by decide)
theorem b_282_1451 {Z : mZ} {l0 l1 l2 l3 l4 l5 l6 : mV} {h : mH} : m_run Z (282, 1451, [l0, l1, l2, l3, l4, l5, l6], [], h) = some (.inl (0, 0), h) := by
  refine g_base (by decide +kernel : decode (m_byt 282) 1451 = .ok (.iconst 0, 1)) rfl rfl ?_
  show m_run Z (282, 1452, [l0, l1, l2, l3, l4, l5, l6], [(0, 0)], h) = _
  exact g_zret (by decide +kernel : decode (m_byt 282) 1452 = .ok (.ireturn, 1)) (by decide +kernel) (by decide)
theorem b_282_1453 {Z : mZ} {l0 l1 l2 l5 l6 : mV} {x4 : Int} {r3 : Nat} {h : mH} : m_run Z (282, 1453, [l0, l1, l2, (2, ((r3 : Nat) : Int)), (0, x4), l5, l6], [], h) = m_run Z (282, 23, [l0, l1, l2, (2, ((r3 : Nat) : Int)), (0, x4 + 6), l5, l6], [], h) := by
  refine g_jmp (t := 2388) (by decide +kernel : decode (m_byt 282) 1453 = .ok (.goto 935, 3)) (by decide) ?_
  refine g_iinc (k := 4) (x := x4) (by decide +kernel : decode (m_byt 282) 2388 = .ok (.iinc 4 6, 3)) rfl (Nat.le_of_ble_eq_true rfl) ?_
  show m_run Z (282, 2391, [l0, l1, l2, (2, ((r3 : Nat) : Int)), (0, x4 + 6), l5, l6], [], h) = _
  refine g_jmp (t := 23) (by decide +kernel : decode (m_byt 282) 2391 = .ok (.goto (-2368), 3)) (by decide) ?_
  rfl
theorem b_282_1456 {Z : mZ} {l2 l5 l6 : mV} {x0 x4 : Int} {r1 r3 : Nat} {h : mH} (h0 : 0 ≤ w32 (x4 + 1)) (h1 : w32 (x4 + 1) < (Z.1 : Int)) (h2 : 0 ≤ w32 (x4 + 2)) (h3 : w32 (x4 + 2) < (Z.1 : Int)) (h4 : 0 ≤ w32 (x4 + 3)) (h5 : w32 (x4 + 3) < (Z.1 : Int)) : m_run Z (282, 1456, [(4, x0), (2, ((r1 : Nat) : Int)), l2, (2, ((r3 : Nat) : Int)), (0, x4), l5, l6], [], h) = (m_cl Z 268 [(2, ((r1 : Nat) : Int)), (0, (Z.2 (w32 (x4 + 1)).toNat).toInt), (0, (Z.2 (w32 (x4 + 2)).toNat).toInt), (0, (Z.2 (w32 (x4 + 3)).toNat).toInt), (2, ((r3 : Nat) : Int))] h).bind (m_aft (m_run Z) 282 1476 [(4, x0), (2, ((r1 : Nat) : Int)), l2, (2, ((r3 : Nat) : Int)), (0, x4), l5, l6] []) := by
  refine g_aload_n (k := 1) (v := (2, ((r1 : Nat) : Int))) (by decide +kernel : decode (m_byt 282) 1456 = .ok (.aload_n 1, 1)) rfl (Or.inl rfl) ?_
  refine g_aload_n (k := 0) (v := (4, x0)) (by decide +kernel : decode (m_byt 282) 1457 = .ok (.aload_n 0, 1)) rfl (Or.inr (Or.inr rfl)) ?_
  refine g_iload (k := 4) (x := x4) (by decide +kernel : decode (m_byt 282) 1458 = .ok (.iload 4, 2)) rfl ?_
  refine g_base (by decide +kernel : decode (m_byt 282) 1460 = .ok (.iconst 1, 1)) rfl rfl ?_
  show m_run Z (282, 1461, [(4, x0), (2, ((r1 : Nat) : Int)), l2, (2, ((r3 : Nat) : Int)), (0, x4), l5, l6], [(0, 1), (0, x4), (4, x0), (2, ((r1 : Nat) : Int))], h) = _
  refine g_base (by decide +kernel : decode (m_byt 282) 1461 = .ok (.iadd, 1)) rfl rfl ?_
  show m_run Z (282, 1462, [(4, x0), (2, ((r1 : Nat) : Int)), l2, (2, ((r3 : Nat) : Int)), (0, x4), l5, l6], [(0, (x4 + 1)), (4, x0), (2, ((r1 : Nat) : Int))], h) = _
  refine g_sald (by decide +kernel : decode (m_byt 282) 1462 = .ok (.iaload, 1)) h0 h1 ?_
  refine g_aload_n (k := 0) (v := (4, x0)) (by decide +kernel : decode (m_byt 282) 1463 = .ok (.aload_n 0, 1)) rfl (Or.inr (Or.inr rfl)) ?_
  refine g_iload (k := 4) (x := x4) (by decide +kernel : decode (m_byt 282) 1464 = .ok (.iload 4, 2)) rfl ?_
  refine g_base (by decide +kernel : decode (m_byt 282) 1466 = .ok (.iconst 2, 1)) rfl rfl ?_
  show m_run Z (282, 1467, [(4, x0), (2, ((r1 : Nat) : Int)), l2, (2, ((r3 : Nat) : Int)), (0, x4), l5, l6], [(0, 2), (0, x4), (4, x0), (0, (Z.2 (w32 (x4 + 1)).toNat).toInt), (2, ((r1 : Nat) : Int))], h) = _
  refine g_base (by decide +kernel : decode (m_byt 282) 1467 = .ok (.iadd, 1)) rfl rfl ?_
  show m_run Z (282, 1468, [(4, x0), (2, ((r1 : Nat) : Int)), l2, (2, ((r3 : Nat) : Int)), (0, x4), l5, l6], [(0, (x4 + 2)), (4, x0), (0, (Z.2 (w32 (x4 + 1)).toNat).toInt), (2, ((r1 : Nat) : Int))], h) = _
  refine g_sald (by decide +kernel : decode (m_byt 282) 1468 = .ok (.iaload, 1)) h2 h3 ?_
  refine g_aload_n (k := 0) (v := (4, x0)) (by decide +kernel : decode (m_byt 282) 1469 = .ok (.aload_n 0, 1)) rfl (Or.inr (Or.inr rfl)) ?_
  refine g_iload (k := 4) (x := x4) (by decide +kernel : decode (m_byt 282) 1470 = .ok (.iload 4, 2)) rfl ?_
  refine g_base (by decide +kernel : decode (m_byt 282) 1472 = .ok (.iconst 3, 1)) rfl rfl ?_
  show m_run Z (282, 1473, [(4, x0), (2, ((r1 : Nat) : Int)), l2, (2, ((r3 : Nat) : Int)), (0, x4), l5, l6], [(0, 3), (0, x4), (4, x0), (0, (Z.2 (w32 (x4 + 2)).toNat).toInt), (0, (Z.2 (w32 (x4 + 1)).toNat).toInt), (2, ((r1 : Nat) : Int))], h) = _
  refine g_base (by decide +kernel : decode (m_byt 282) 1473 = .ok (.iadd, 1)) rfl rfl ?_
  show m_run Z (282, 1474, [(4, x0), (2, ((r1 : Nat) : Int)), l2, (2, ((r3 : Nat) : Int)), (0, x4), l5, l6], [(0, (x4 + 3)), (4, x0), (0, (Z.2 (w32 (x4 + 2)).toNat).toInt), (0, (Z.2 (w32 (x4 + 1)).toNat).toInt), (2, ((r1 : Nat) : Int))], h) = _
  refine g_sald (by decide +kernel : decode (m_byt 282) 1474 = .ok (.iaload, 1)) h4 h5 ?_
  refine g_aload_n (k := 3) (v := (2, ((r3 : Nat) : Int))) (by decide +kernel : decode (m_byt 282) 1475 = .ok (.aload_n 3, 1)) rfl (Or.inl rfl) ?_
  exact g_inv (k := 0) (m' := 268) (np := 5) (as := [(2, ((r1 : Nat) : Int)), (0, (Z.2 (w32 (x4 + 1)).toNat).toInt), (0, (Z.2 (w32 (x4 + 2)).toNat).toInt), (0, (Z.2 (w32 (x4 + 3)).toNat).toInt), (2, ((r3 : Nat) : Int))]) (by decide +kernel : decode (m_byt 282) 1476 = .ok (.invokestatic 184, 3)) (Or.inr (Or.inr ⟨rfl, rfl, by decide, by decide⟩)) (by decide +kernel) (by decide +kernel) (by decide +kernel) (Nat.le_of_ble_eq_true rfl) rfl (Or.inl rfl)
theorem b_282_1479 {Z : mZ} {l1 l3 l5 l6 : mV} {s0 x4 x0 : Int} {r2 : Nat} {K : Nat → mK} {σ : Nat → Nat → Int} {n e s : Nat} (h0 : 0 ≤ w32 (x4 + 1)) (h1 : w32 (x4 + 1) < (Z.1 : Int)) (h2 : 0 ≤ w32 (x4 + 2)) (h3 : w32 (x4 + 2) < (Z.1 : Int)) (h4 : 0 ≤ w32 (x4 + 3)) (h5 : w32 (x4 + 3) < (Z.1 : Int)) (h6 : q_ob K n r2 7) : m_run Z (282, 1479, [(4, x0), l1, (2, ((r2 : Nat) : Int)), l3, (0, x4), l5, l6], [(0, s0)], (K, σ, n, e, s)) = (m_cl Z 215 [(2, ((r2 : Nat) : Int)), (0, (Z.2 (w32 (x4 + 1)).toNat).toInt), (0, (Z.2 (w32 (x4 + 2)).toNat).toInt), (0, (Z.2 (w32 (x4 + 3)).toNat).toInt)] (K, σ, n, e, s)).bind (m_aft (m_run Z) 282 1500 [(4, x0), l1, (2, ((r2 : Nat) : Int)), l3, (0, x4), (0, s0), l6] []) := by
  refine g_istore (k := 5) (by decide +kernel : decode (m_byt 282) 1479 = .ok (.istore 5, 2)) (Nat.le_of_ble_eq_true rfl) ?_
  show m_run Z (282, 1481, [(4, x0), l1, (2, ((r2 : Nat) : Int)), l3, (0, x4), (0, s0), l6], [], (K, σ, n, e, s)) = _
  refine g_aload_n (k := 2) (v := (2, ((r2 : Nat) : Int))) (by decide +kernel : decode (m_byt 282) 1481 = .ok (.aload_n 2, 1)) rfl (Or.inl rfl) ?_
  refine g_aload_n (k := 0) (v := (4, x0)) (by decide +kernel : decode (m_byt 282) 1482 = .ok (.aload_n 0, 1)) rfl (Or.inr (Or.inr rfl)) ?_
  refine g_iload (k := 4) (x := x4) (by decide +kernel : decode (m_byt 282) 1483 = .ok (.iload 4, 2)) rfl ?_
  refine g_base (by decide +kernel : decode (m_byt 282) 1485 = .ok (.iconst 1, 1)) rfl rfl ?_
  show m_run Z (282, 1486, [(4, x0), l1, (2, ((r2 : Nat) : Int)), l3, (0, x4), (0, s0), l6], [(0, 1), (0, x4), (4, x0), (2, ((r2 : Nat) : Int))], (K, σ, n, e, s)) = _
  refine g_base (by decide +kernel : decode (m_byt 282) 1486 = .ok (.iadd, 1)) rfl rfl ?_
  show m_run Z (282, 1487, [(4, x0), l1, (2, ((r2 : Nat) : Int)), l3, (0, x4), (0, s0), l6], [(0, (x4 + 1)), (4, x0), (2, ((r2 : Nat) : Int))], (K, σ, n, e, s)) = _
  refine g_sald (by decide +kernel : decode (m_byt 282) 1487 = .ok (.iaload, 1)) h0 h1 ?_
  refine g_aload_n (k := 0) (v := (4, x0)) (by decide +kernel : decode (m_byt 282) 1488 = .ok (.aload_n 0, 1)) rfl (Or.inr (Or.inr rfl)) ?_
  refine g_iload (k := 4) (x := x4) (by decide +kernel : decode (m_byt 282) 1489 = .ok (.iload 4, 2)) rfl ?_
  refine g_base (by decide +kernel : decode (m_byt 282) 1491 = .ok (.iconst 2, 1)) rfl rfl ?_
  show m_run Z (282, 1492, [(4, x0), l1, (2, ((r2 : Nat) : Int)), l3, (0, x4), (0, s0), l6], [(0, 2), (0, x4), (4, x0), (0, (Z.2 (w32 (x4 + 1)).toNat).toInt), (2, ((r2 : Nat) : Int))], (K, σ, n, e, s)) = _
  refine g_base (by decide +kernel : decode (m_byt 282) 1492 = .ok (.iadd, 1)) rfl rfl ?_
  show m_run Z (282, 1493, [(4, x0), l1, (2, ((r2 : Nat) : Int)), l3, (0, x4), (0, s0), l6], [(0, (x4 + 2)), (4, x0), (0, (Z.2 (w32 (x4 + 1)).toNat).toInt), (2, ((r2 : Nat) : Int))], (K, σ, n, e, s)) = _
  refine g_sald (by decide +kernel : decode (m_byt 282) 1493 = .ok (.iaload, 1)) h2 h3 ?_
  refine g_aload_n (k := 0) (v := (4, x0)) (by decide +kernel : decode (m_byt 282) 1494 = .ok (.aload_n 0, 1)) rfl (Or.inr (Or.inr rfl)) ?_
  refine g_iload (k := 4) (x := x4) (by decide +kernel : decode (m_byt 282) 1495 = .ok (.iload 4, 2)) rfl ?_
  refine g_base (by decide +kernel : decode (m_byt 282) 1497 = .ok (.iconst 3, 1)) rfl rfl ?_
  show m_run Z (282, 1498, [(4, x0), l1, (2, ((r2 : Nat) : Int)), l3, (0, x4), (0, s0), l6], [(0, 3), (0, x4), (4, x0), (0, (Z.2 (w32 (x4 + 2)).toNat).toInt), (0, (Z.2 (w32 (x4 + 1)).toNat).toInt), (2, ((r2 : Nat) : Int))], (K, σ, n, e, s)) = _
  refine g_base (by decide +kernel : decode (m_byt 282) 1498 = .ok (.iadd, 1)) rfl rfl ?_
  show m_run Z (282, 1499, [(4, x0), l1, (2, ((r2 : Nat) : Int)), l3, (0, x4), (0, s0), l6], [(0, (x4 + 3)), (4, x0), (0, (Z.2 (w32 (x4 + 2)).toNat).toInt), (0, (Z.2 (w32 (x4 + 1)).toNat).toInt), (2, ((r2 : Nat) : Int))], (K, σ, n, e, s)) = _
  refine g_sald (by decide +kernel : decode (m_byt 282) 1499 = .ok (.iaload, 1)) h4 h5 ?_
  exact g_inv (k := 1) (m' := 215) (np := 3) (as := [(2, ((r2 : Nat) : Int)), (0, (Z.2 (w32 (x4 + 1)).toNat).toInt), (0, (Z.2 (w32 (x4 + 2)).toNat).toInt), (0, (Z.2 (w32 (x4 + 3)).toNat).toInt)]) (by decide +kernel : decode (m_byt 282) 1500 = .ok (.invokevirtual 186, 3)) (Or.inl ⟨rfl, rfl⟩) (by decide +kernel) (by decide +kernel) (by decide +kernel) (Nat.le_of_ble_eq_true rfl) rfl (Or.inr (g_rcv (by decide +kernel) h6))
theorem b_282_1503 {Z : mZ} {l0 l1 l3 l4 l6 : mV} {s0 x5 : Int} {r2 : Nat} {K : Nat → mK} {σ : Nat → Nat → Int} {n e s : Nat} (h0 : q_ob K n r2 7) : m_run Z (282, 1503, [l0, l1, (2, ((r2 : Nat) : Int)), l3, l4, (0, x5), l6], [(0, s0)], (K, σ, n, e, s)) = (m_cl Z 150 [(2, ((r2 : Nat) : Int))] (K, σ, n, e, s)).bind (m_aft (m_run Z) 282 1506 [l0, l1, (2, ((r2 : Nat) : Int)), l3, l4, (0, x5), (0, s0)] []) := by
  refine g_istore (k := 6) (by decide +kernel : decode (m_byt 282) 1503 = .ok (.istore 6, 2)) (Nat.le_of_ble_eq_true rfl) ?_
  show m_run Z (282, 1505, [l0, l1, (2, ((r2 : Nat) : Int)), l3, l4, (0, x5), (0, s0)], [], (K, σ, n, e, s)) = _
  refine g_aload_n (k := 2) (v := (2, ((r2 : Nat) : Int))) (by decide +kernel : decode (m_byt 282) 1505 = .ok (.aload_n 2, 1)) rfl (Or.inl rfl) ?_
  exact g_inv (k := 1) (m' := 150) (np := 0) (as := [(2, ((r2 : Nat) : Int))]) (by decide +kernel : decode (m_byt 282) 1506 = .ok (.invokevirtual 125, 3)) (Or.inl ⟨rfl, rfl⟩) (by decide +kernel) (by decide +kernel) (by decide +kernel) (Nat.le_of_ble_eq_true rfl) rfl (Or.inr (g_rcv (by decide +kernel) h0))
theorem b_282_1509 {Z : mZ} {l0 l1 l2 l3 l4 l6 : mV} {s0 x5 : Int} {h : mH} : m_run Z (282, 1509, [l0, l1, l2, l3, l4, (0, x5), l6], [(0, s0)], h) = if w32 s0 = w32 x5 then m_run Z (282, 1516, [l0, l1, l2, l3, l4, (0, x5), l6], [], h) else m_run Z (282, 1514, [l0, l1, l2, l3, l4, (0, x5), l6], [], h) := by
  refine g_iload (k := 5) (x := x5) (by decide +kernel : decode (m_byt 282) 1509 = .ok (.iload 5, 2)) rfl ?_
  exact g_brq (t := 1516) (off := 5) (by decide +kernel : decode (m_byt 282) 1511 = .ok (.if_icmp .eq 5, 3)) rfl rfl (by decide)
theorem b_282_1514 {Z : mZ} {l0 l1 l2 l3 l4 l5 l6 : mV} {h : mH} : m_run Z (282, 1514, [l0, l1, l2, l3, l4, l5, l6], [], h) = some (.inl (0, 0), h) := by
  refine g_base (by decide +kernel : decode (m_byt 282) 1514 = .ok (.iconst 0, 1)) rfl rfl ?_
  show m_run Z (282, 1515, [l0, l1, l2, l3, l4, l5, l6], [(0, 0)], h) = _
  exact g_zret (by decide +kernel : decode (m_byt 282) 1515 = .ok (.ireturn, 1)) (by decide +kernel) (by decide)
theorem b_282_1516 {Z : mZ} {l0 l1 l2 l3 l4 l6 : mV} {x5 : Int} {h : mH} : m_run Z (282, 1516, [l0, l1, l2, l3, l4, (0, x5), l6], [], h) = if w32 x5 = 0 then m_run Z (282, 1521, [l0, l1, l2, l3, l4, (0, x5), l6], [], h) else m_run Z (282, 1533, [l0, l1, l2, l3, l4, (0, x5), l6], [], h) := by
  refine g_iload (k := 5) (x := x5) (by decide +kernel : decode (m_byt 282) 1516 = .ok (.iload 5, 2)) rfl ?_
  exact g_brn (t := 1533) (off := 15) (by decide +kernel : decode (m_byt 282) 1518 = .ok (.ifCond .ne 15, 3)) rfl rfl (by decide)
theorem b_282_1521 {Z : mZ} {l0 l1 l2 l4 l5 : mV} {x6 : Int} {r3 : Nat} {K : Nat → mK} {σ : Nat → Nat → Int} {n e s : Nat} (h0 : 0 ≤ w32 0) (h1 : w32 0 < (q_ln K r3 : Int)) (h2 : q_ak K n r3 3) : m_run Z (282, 1521, [l0, l1, l2, (2, ((r3 : Nat) : Int)), l4, l5, (0, x6)], [], (K, σ, n, e, s)) = if w32 (l_cmp (σ r3 (w32 0).toNat) (w32 x6)) = 0 then m_run Z (282, 1533, [l0, l1, l2, (2, ((r3 : Nat) : Int)), l4, l5, (0, x6)], [], (K, σ, n, e, s)) else m_run Z (282, 1531, [l0, l1, l2, (2, ((r3 : Nat) : Int)), l4, l5, (0, x6)], [], (K, σ, n, e, s)) := by
  refine g_aload_n (k := 3) (v := (2, ((r3 : Nat) : Int))) (by decide +kernel : decode (m_byt 282) 1521 = .ok (.aload_n 3, 1)) rfl (Or.inl rfl) ?_
  refine g_base (by decide +kernel : decode (m_byt 282) 1522 = .ok (.iconst 0, 1)) rfl rfl ?_
  show m_run Z (282, 1523, [l0, l1, l2, (2, ((r3 : Nat) : Int)), l4, l5, (0, x6)], [(0, 0), (2, ((r3 : Nat) : Int))], (K, σ, n, e, s)) = _
  refine g_lald (by decide +kernel : decode (m_byt 282) 1523 = .ok (.laload, 1)) h2 h0 h1 ?_
  refine g_iload (k := 6) (x := x6) (by decide +kernel : decode (m_byt 282) 1524 = .ok (.iload 6, 2)) rfl ?_
  refine g_base (by decide +kernel : decode (m_byt 282) 1526 = .ok (.i2l, 1)) rfl rfl ?_
  show m_run Z (282, 1527, [l0, l1, l2, (2, ((r3 : Nat) : Int)), l4, l5, (0, x6)], [(1, (w32 x6)), (1, (σ r3 (w32 0).toNat))], (K, σ, n, e, s)) = _
  refine g_base (by decide +kernel : decode (m_byt 282) 1527 = .ok (.lcmp, 1)) rfl rfl ?_
  show m_run Z (282, 1528, [l0, l1, l2, (2, ((r3 : Nat) : Int)), l4, l5, (0, x6)], [(0, (l_cmp (σ r3 (w32 0).toNat) (w32 x6)))], (K, σ, n, e, s)) = _
  exact g_brq (t := 1533) (off := 5) (by decide +kernel : decode (m_byt 282) 1528 = .ok (.ifCond .eq 5, 3)) rfl rfl (by decide)
theorem b_282_1531 {Z : mZ} {l0 l1 l2 l3 l4 l5 l6 : mV} {h : mH} : m_run Z (282, 1531, [l0, l1, l2, l3, l4, l5, l6], [], h) = some (.inl (0, 0), h) := by
  refine g_base (by decide +kernel : decode (m_byt 282) 1531 = .ok (.iconst 0, 1)) rfl rfl ?_
  show m_run Z (282, 1532, [l0, l1, l2, l3, l4, l5, l6], [(0, 0)], h) = _
  exact g_zret (by decide +kernel : decode (m_byt 282) 1532 = .ok (.ireturn, 1)) (by decide +kernel) (by decide)
theorem b_282_1533 {Z : mZ} {l0 l1 l2 l5 l6 : mV} {x4 : Int} {r3 : Nat} {h : mH} : m_run Z (282, 1533, [l0, l1, l2, (2, ((r3 : Nat) : Int)), (0, x4), l5, l6], [], h) = m_run Z (282, 23, [l0, l1, l2, (2, ((r3 : Nat) : Int)), (0, x4 + 6), l5, l6], [], h) := by
  refine g_jmp (t := 2388) (by decide +kernel : decode (m_byt 282) 1533 = .ok (.goto 855, 3)) (by decide) ?_
  refine g_iinc (k := 4) (x := x4) (by decide +kernel : decode (m_byt 282) 2388 = .ok (.iinc 4 6, 3)) rfl (Nat.le_of_ble_eq_true rfl) ?_
  show m_run Z (282, 2391, [l0, l1, l2, (2, ((r3 : Nat) : Int)), (0, x4 + 6), l5, l6], [], h) = _
  refine g_jmp (t := 23) (by decide +kernel : decode (m_byt 282) 2391 = .ok (.goto (-2368), 3)) (by decide) ?_
  rfl
theorem b_282_1536 {Z : mZ} {l2 l5 l6 : mV} {x0 x4 : Int} {r1 r3 : Nat} {h : mH} (h0 : 0 ≤ w32 (x4 + 1)) (h1 : w32 (x4 + 1) < (Z.1 : Int)) (h2 : 0 ≤ w32 (x4 + 2)) (h3 : w32 (x4 + 2) < (Z.1 : Int)) : m_run Z (282, 1536, [(4, x0), (2, ((r1 : Nat) : Int)), l2, (2, ((r3 : Nat) : Int)), (0, x4), l5, l6], [], h) = (m_cl Z 269 [(2, ((r1 : Nat) : Int)), (0, (Z.2 (w32 (x4 + 1)).toNat).toInt), (0, (Z.2 (w32 (x4 + 2)).toNat).toInt), (2, ((r3 : Nat) : Int))] h).bind (m_aft (m_run Z) 282 1550 [(4, x0), (2, ((r1 : Nat) : Int)), l2, (2, ((r3 : Nat) : Int)), (0, x4), l5, l6] []) := by
  refine g_aload_n (k := 1) (v := (2, ((r1 : Nat) : Int))) (by decide +kernel : decode (m_byt 282) 1536 = .ok (.aload_n 1, 1)) rfl (Or.inl rfl) ?_
  refine g_aload_n (k := 0) (v := (4, x0)) (by decide +kernel : decode (m_byt 282) 1537 = .ok (.aload_n 0, 1)) rfl (Or.inr (Or.inr rfl)) ?_
  refine g_iload (k := 4) (x := x4) (by decide +kernel : decode (m_byt 282) 1538 = .ok (.iload 4, 2)) rfl ?_
  refine g_base (by decide +kernel : decode (m_byt 282) 1540 = .ok (.iconst 1, 1)) rfl rfl ?_
  show m_run Z (282, 1541, [(4, x0), (2, ((r1 : Nat) : Int)), l2, (2, ((r3 : Nat) : Int)), (0, x4), l5, l6], [(0, 1), (0, x4), (4, x0), (2, ((r1 : Nat) : Int))], h) = _
  refine g_base (by decide +kernel : decode (m_byt 282) 1541 = .ok (.iadd, 1)) rfl rfl ?_
  show m_run Z (282, 1542, [(4, x0), (2, ((r1 : Nat) : Int)), l2, (2, ((r3 : Nat) : Int)), (0, x4), l5, l6], [(0, (x4 + 1)), (4, x0), (2, ((r1 : Nat) : Int))], h) = _
  refine g_sald (by decide +kernel : decode (m_byt 282) 1542 = .ok (.iaload, 1)) h0 h1 ?_
  refine g_aload_n (k := 0) (v := (4, x0)) (by decide +kernel : decode (m_byt 282) 1543 = .ok (.aload_n 0, 1)) rfl (Or.inr (Or.inr rfl)) ?_
  refine g_iload (k := 4) (x := x4) (by decide +kernel : decode (m_byt 282) 1544 = .ok (.iload 4, 2)) rfl ?_
  refine g_base (by decide +kernel : decode (m_byt 282) 1546 = .ok (.iconst 2, 1)) rfl rfl ?_
  show m_run Z (282, 1547, [(4, x0), (2, ((r1 : Nat) : Int)), l2, (2, ((r3 : Nat) : Int)), (0, x4), l5, l6], [(0, 2), (0, x4), (4, x0), (0, (Z.2 (w32 (x4 + 1)).toNat).toInt), (2, ((r1 : Nat) : Int))], h) = _
  refine g_base (by decide +kernel : decode (m_byt 282) 1547 = .ok (.iadd, 1)) rfl rfl ?_
  show m_run Z (282, 1548, [(4, x0), (2, ((r1 : Nat) : Int)), l2, (2, ((r3 : Nat) : Int)), (0, x4), l5, l6], [(0, (x4 + 2)), (4, x0), (0, (Z.2 (w32 (x4 + 1)).toNat).toInt), (2, ((r1 : Nat) : Int))], h) = _
  refine g_sald (by decide +kernel : decode (m_byt 282) 1548 = .ok (.iaload, 1)) h2 h3 ?_
  refine g_aload_n (k := 3) (v := (2, ((r3 : Nat) : Int))) (by decide +kernel : decode (m_byt 282) 1549 = .ok (.aload_n 3, 1)) rfl (Or.inl rfl) ?_
  exact g_inv (k := 0) (m' := 269) (np := 4) (as := [(2, ((r1 : Nat) : Int)), (0, (Z.2 (w32 (x4 + 1)).toNat).toInt), (0, (Z.2 (w32 (x4 + 2)).toNat).toInt), (2, ((r3 : Nat) : Int))]) (by decide +kernel : decode (m_byt 282) 1550 = .ok (.invokestatic 187, 3)) (Or.inr (Or.inr ⟨rfl, rfl, by decide, by decide⟩)) (by decide +kernel) (by decide +kernel) (by decide +kernel) (Nat.le_of_ble_eq_true rfl) rfl (Or.inl rfl)
theorem b_282_1553 {Z : mZ} {l1 l3 l5 l6 : mV} {s0 x4 x0 : Int} {r2 : Nat} {K : Nat → mK} {σ : Nat → Nat → Int} {n e s : Nat} (h0 : 0 ≤ w32 (x4 + 1)) (h1 : w32 (x4 + 1) < (Z.1 : Int)) (h2 : 0 ≤ w32 (x4 + 2)) (h3 : w32 (x4 + 2) < (Z.1 : Int)) (h4 : q_ob K n r2 7) : m_run Z (282, 1553, [(4, x0), l1, (2, ((r2 : Nat) : Int)), l3, (0, x4), l5, l6], [(0, s0)], (K, σ, n, e, s)) = (m_cl Z 218 [(2, ((r2 : Nat) : Int)), (0, (Z.2 (w32 (x4 + 1)).toNat).toInt), (0, (Z.2 (w32 (x4 + 2)).toNat).toInt)] (K, σ, n, e, s)).bind (m_aft (m_run Z) 282 1568 [(4, x0), l1, (2, ((r2 : Nat) : Int)), l3, (0, x4), (0, s0), l6] []) := by
  refine g_istore (k := 5) (by decide +kernel : decode (m_byt 282) 1553 = .ok (.istore 5, 2)) (Nat.le_of_ble_eq_true rfl) ?_
  show m_run Z (282, 1555, [(4, x0), l1, (2, ((r2 : Nat) : Int)), l3, (0, x4), (0, s0), l6], [], (K, σ, n, e, s)) = _
  refine g_aload_n (k := 2) (v := (2, ((r2 : Nat) : Int))) (by decide +kernel : decode (m_byt 282) 1555 = .ok (.aload_n 2, 1)) rfl (Or.inl rfl) ?_
  refine g_aload_n (k := 0) (v := (4, x0)) (by decide +kernel : decode (m_byt 282) 1556 = .ok (.aload_n 0, 1)) rfl (Or.inr (Or.inr rfl)) ?_
  refine g_iload (k := 4) (x := x4) (by decide +kernel : decode (m_byt 282) 1557 = .ok (.iload 4, 2)) rfl ?_
  refine g_base (by decide +kernel : decode (m_byt 282) 1559 = .ok (.iconst 1, 1)) rfl rfl ?_
  show m_run Z (282, 1560, [(4, x0), l1, (2, ((r2 : Nat) : Int)), l3, (0, x4), (0, s0), l6], [(0, 1), (0, x4), (4, x0), (2, ((r2 : Nat) : Int))], (K, σ, n, e, s)) = _
  refine g_base (by decide +kernel : decode (m_byt 282) 1560 = .ok (.iadd, 1)) rfl rfl ?_
  show m_run Z (282, 1561, [(4, x0), l1, (2, ((r2 : Nat) : Int)), l3, (0, x4), (0, s0), l6], [(0, (x4 + 1)), (4, x0), (2, ((r2 : Nat) : Int))], (K, σ, n, e, s)) = _
  refine g_sald (by decide +kernel : decode (m_byt 282) 1561 = .ok (.iaload, 1)) h0 h1 ?_
  refine g_aload_n (k := 0) (v := (4, x0)) (by decide +kernel : decode (m_byt 282) 1562 = .ok (.aload_n 0, 1)) rfl (Or.inr (Or.inr rfl)) ?_
  refine g_iload (k := 4) (x := x4) (by decide +kernel : decode (m_byt 282) 1563 = .ok (.iload 4, 2)) rfl ?_
  refine g_base (by decide +kernel : decode (m_byt 282) 1565 = .ok (.iconst 2, 1)) rfl rfl ?_
  show m_run Z (282, 1566, [(4, x0), l1, (2, ((r2 : Nat) : Int)), l3, (0, x4), (0, s0), l6], [(0, 2), (0, x4), (4, x0), (0, (Z.2 (w32 (x4 + 1)).toNat).toInt), (2, ((r2 : Nat) : Int))], (K, σ, n, e, s)) = _
  refine g_base (by decide +kernel : decode (m_byt 282) 1566 = .ok (.iadd, 1)) rfl rfl ?_
  show m_run Z (282, 1567, [(4, x0), l1, (2, ((r2 : Nat) : Int)), l3, (0, x4), (0, s0), l6], [(0, (x4 + 2)), (4, x0), (0, (Z.2 (w32 (x4 + 1)).toNat).toInt), (2, ((r2 : Nat) : Int))], (K, σ, n, e, s)) = _
  refine g_sald (by decide +kernel : decode (m_byt 282) 1567 = .ok (.iaload, 1)) h2 h3 ?_
  exact g_inv (k := 1) (m' := 218) (np := 2) (as := [(2, ((r2 : Nat) : Int)), (0, (Z.2 (w32 (x4 + 1)).toNat).toInt), (0, (Z.2 (w32 (x4 + 2)).toNat).toInt)]) (by decide +kernel : decode (m_byt 282) 1568 = .ok (.invokevirtual 189, 3)) (Or.inl ⟨rfl, rfl⟩) (by decide +kernel) (by decide +kernel) (by decide +kernel) (Nat.le_of_ble_eq_true rfl) rfl (Or.inr (g_rcv (by decide +kernel) h4))
theorem b_282_1571 {Z : mZ} {l0 l1 l3 l4 l6 : mV} {s0 x5 : Int} {r2 : Nat} {K : Nat → mK} {σ : Nat → Nat → Int} {n e s : Nat} (h0 : q_ob K n r2 7) : m_run Z (282, 1571, [l0, l1, (2, ((r2 : Nat) : Int)), l3, l4, (0, x5), l6], [(0, s0)], (K, σ, n, e, s)) = (m_cl Z 150 [(2, ((r2 : Nat) : Int))] (K, σ, n, e, s)).bind (m_aft (m_run Z) 282 1574 [l0, l1, (2, ((r2 : Nat) : Int)), l3, l4, (0, x5), (0, s0)] []) := by
  refine g_istore (k := 6) (by decide +kernel : decode (m_byt 282) 1571 = .ok (.istore 6, 2)) (Nat.le_of_ble_eq_true rfl) ?_
  show m_run Z (282, 1573, [l0, l1, (2, ((r2 : Nat) : Int)), l3, l4, (0, x5), (0, s0)], [], (K, σ, n, e, s)) = _
  refine g_aload_n (k := 2) (v := (2, ((r2 : Nat) : Int))) (by decide +kernel : decode (m_byt 282) 1573 = .ok (.aload_n 2, 1)) rfl (Or.inl rfl) ?_
  exact g_inv (k := 1) (m' := 150) (np := 0) (as := [(2, ((r2 : Nat) : Int))]) (by decide +kernel : decode (m_byt 282) 1574 = .ok (.invokevirtual 125, 3)) (Or.inl ⟨rfl, rfl⟩) (by decide +kernel) (by decide +kernel) (by decide +kernel) (Nat.le_of_ble_eq_true rfl) rfl (Or.inr (g_rcv (by decide +kernel) h0))
theorem b_282_1577 {Z : mZ} {l0 l1 l2 l3 l4 l6 : mV} {s0 x5 : Int} {h : mH} : m_run Z (282, 1577, [l0, l1, l2, l3, l4, (0, x5), l6], [(0, s0)], h) = if w32 s0 = w32 x5 then m_run Z (282, 1584, [l0, l1, l2, l3, l4, (0, x5), l6], [], h) else m_run Z (282, 1582, [l0, l1, l2, l3, l4, (0, x5), l6], [], h) := by
  refine g_iload (k := 5) (x := x5) (by decide +kernel : decode (m_byt 282) 1577 = .ok (.iload 5, 2)) rfl ?_
  exact g_brq (t := 1584) (off := 5) (by decide +kernel : decode (m_byt 282) 1579 = .ok (.if_icmp .eq 5, 3)) rfl rfl (by decide)
theorem b_282_1582 {Z : mZ} {l0 l1 l2 l3 l4 l5 l6 : mV} {h : mH} : m_run Z (282, 1582, [l0, l1, l2, l3, l4, l5, l6], [], h) = some (.inl (0, 0), h) := by
  refine g_base (by decide +kernel : decode (m_byt 282) 1582 = .ok (.iconst 0, 1)) rfl rfl ?_
  show m_run Z (282, 1583, [l0, l1, l2, l3, l4, l5, l6], [(0, 0)], h) = _
  exact g_zret (by decide +kernel : decode (m_byt 282) 1583 = .ok (.ireturn, 1)) (by decide +kernel) (by decide)
theorem b_282_1584 {Z : mZ} {l0 l1 l2 l3 l4 l6 : mV} {x5 : Int} {h : mH} : m_run Z (282, 1584, [l0, l1, l2, l3, l4, (0, x5), l6], [], h) = if w32 x5 = 0 then m_run Z (282, 1589, [l0, l1, l2, l3, l4, (0, x5), l6], [], h) else m_run Z (282, 1601, [l0, l1, l2, l3, l4, (0, x5), l6], [], h) := by
  refine g_iload (k := 5) (x := x5) (by decide +kernel : decode (m_byt 282) 1584 = .ok (.iload 5, 2)) rfl ?_
  exact g_brn (t := 1601) (off := 15) (by decide +kernel : decode (m_byt 282) 1586 = .ok (.ifCond .ne 15, 3)) rfl rfl (by decide)
theorem b_282_1589 {Z : mZ} {l0 l1 l2 l4 l5 : mV} {x6 : Int} {r3 : Nat} {K : Nat → mK} {σ : Nat → Nat → Int} {n e s : Nat} (h0 : 0 ≤ w32 0) (h1 : w32 0 < (q_ln K r3 : Int)) (h2 : q_ak K n r3 3) : m_run Z (282, 1589, [l0, l1, l2, (2, ((r3 : Nat) : Int)), l4, l5, (0, x6)], [], (K, σ, n, e, s)) = if w32 (l_cmp (σ r3 (w32 0).toNat) (w32 x6)) = 0 then m_run Z (282, 1601, [l0, l1, l2, (2, ((r3 : Nat) : Int)), l4, l5, (0, x6)], [], (K, σ, n, e, s)) else m_run Z (282, 1599, [l0, l1, l2, (2, ((r3 : Nat) : Int)), l4, l5, (0, x6)], [], (K, σ, n, e, s)) := by
  refine g_aload_n (k := 3) (v := (2, ((r3 : Nat) : Int))) (by decide +kernel : decode (m_byt 282) 1589 = .ok (.aload_n 3, 1)) rfl (Or.inl rfl) ?_
  refine g_base (by decide +kernel : decode (m_byt 282) 1590 = .ok (.iconst 0, 1)) rfl rfl ?_
  show m_run Z (282, 1591, [l0, l1, l2, (2, ((r3 : Nat) : Int)), l4, l5, (0, x6)], [(0, 0), (2, ((r3 : Nat) : Int))], (K, σ, n, e, s)) = _
  refine g_lald (by decide +kernel : decode (m_byt 282) 1591 = .ok (.laload, 1)) h2 h0 h1 ?_
  refine g_iload (k := 6) (x := x6) (by decide +kernel : decode (m_byt 282) 1592 = .ok (.iload 6, 2)) rfl ?_
  refine g_base (by decide +kernel : decode (m_byt 282) 1594 = .ok (.i2l, 1)) rfl rfl ?_
  show m_run Z (282, 1595, [l0, l1, l2, (2, ((r3 : Nat) : Int)), l4, l5, (0, x6)], [(1, (w32 x6)), (1, (σ r3 (w32 0).toNat))], (K, σ, n, e, s)) = _
  refine g_base (by decide +kernel : decode (m_byt 282) 1595 = .ok (.lcmp, 1)) rfl rfl ?_
  show m_run Z (282, 1596, [l0, l1, l2, (2, ((r3 : Nat) : Int)), l4, l5, (0, x6)], [(0, (l_cmp (σ r3 (w32 0).toNat) (w32 x6)))], (K, σ, n, e, s)) = _
  exact g_brq (t := 1601) (off := 5) (by decide +kernel : decode (m_byt 282) 1596 = .ok (.ifCond .eq 5, 3)) rfl rfl (by decide)
theorem b_282_1599 {Z : mZ} {l0 l1 l2 l3 l4 l5 l6 : mV} {h : mH} : m_run Z (282, 1599, [l0, l1, l2, l3, l4, l5, l6], [], h) = some (.inl (0, 0), h) := by
  refine g_base (by decide +kernel : decode (m_byt 282) 1599 = .ok (.iconst 0, 1)) rfl rfl ?_
  show m_run Z (282, 1600, [l0, l1, l2, l3, l4, l5, l6], [(0, 0)], h) = _
  exact g_zret (by decide +kernel : decode (m_byt 282) 1600 = .ok (.ireturn, 1)) (by decide +kernel) (by decide)
theorem b_282_1601 {Z : mZ} {l0 l1 l2 l5 l6 : mV} {x4 : Int} {r3 : Nat} {h : mH} : m_run Z (282, 1601, [l0, l1, l2, (2, ((r3 : Nat) : Int)), (0, x4), l5, l6], [], h) = m_run Z (282, 23, [l0, l1, l2, (2, ((r3 : Nat) : Int)), (0, x4 + 6), l5, l6], [], h) := by
  refine g_jmp (t := 2388) (by decide +kernel : decode (m_byt 282) 1601 = .ok (.goto 787, 3)) (by decide) ?_
  refine g_iinc (k := 4) (x := x4) (by decide +kernel : decode (m_byt 282) 2388 = .ok (.iinc 4 6, 3)) rfl (Nat.le_of_ble_eq_true rfl) ?_
  show m_run Z (282, 2391, [l0, l1, l2, (2, ((r3 : Nat) : Int)), (0, x4 + 6), l5, l6], [], h) = _
  refine g_jmp (t := 23) (by decide +kernel : decode (m_byt 282) 2391 = .ok (.goto (-2368), 3)) (by decide) ?_
  rfl
theorem b_282_1604 {Z : mZ} {l2 l5 l6 : mV} {x0 x4 : Int} {r1 r3 : Nat} {h : mH} (h0 : 0 ≤ w32 (x4 + 1)) (h1 : w32 (x4 + 1) < (Z.1 : Int)) (h2 : 0 ≤ w32 (x4 + 2)) (h3 : w32 (x4 + 2) < (Z.1 : Int)) : m_run Z (282, 1604, [(4, x0), (2, ((r1 : Nat) : Int)), l2, (2, ((r3 : Nat) : Int)), (0, x4), l5, l6], [], h) = (m_cl Z 270 [(2, ((r1 : Nat) : Int)), (0, (Z.2 (w32 (x4 + 1)).toNat).toInt), (0, (Z.2 (w32 (x4 + 2)).toNat).toInt), (2, ((r3 : Nat) : Int))] h).bind (m_aft (m_run Z) 282 1618 [(4, x0), (2, ((r1 : Nat) : Int)), l2, (2, ((r3 : Nat) : Int)), (0, x4), l5, l6] []) := by
  refine g_aload_n (k := 1) (v := (2, ((r1 : Nat) : Int))) (by decide +kernel : decode (m_byt 282) 1604 = .ok (.aload_n 1, 1)) rfl (Or.inl rfl) ?_
  refine g_aload_n (k := 0) (v := (4, x0)) (by decide +kernel : decode (m_byt 282) 1605 = .ok (.aload_n 0, 1)) rfl (Or.inr (Or.inr rfl)) ?_
  refine g_iload (k := 4) (x := x4) (by decide +kernel : decode (m_byt 282) 1606 = .ok (.iload 4, 2)) rfl ?_
  refine g_base (by decide +kernel : decode (m_byt 282) 1608 = .ok (.iconst 1, 1)) rfl rfl ?_
  show m_run Z (282, 1609, [(4, x0), (2, ((r1 : Nat) : Int)), l2, (2, ((r3 : Nat) : Int)), (0, x4), l5, l6], [(0, 1), (0, x4), (4, x0), (2, ((r1 : Nat) : Int))], h) = _
  refine g_base (by decide +kernel : decode (m_byt 282) 1609 = .ok (.iadd, 1)) rfl rfl ?_
  show m_run Z (282, 1610, [(4, x0), (2, ((r1 : Nat) : Int)), l2, (2, ((r3 : Nat) : Int)), (0, x4), l5, l6], [(0, (x4 + 1)), (4, x0), (2, ((r1 : Nat) : Int))], h) = _
  refine g_sald (by decide +kernel : decode (m_byt 282) 1610 = .ok (.iaload, 1)) h0 h1 ?_
  refine g_aload_n (k := 0) (v := (4, x0)) (by decide +kernel : decode (m_byt 282) 1611 = .ok (.aload_n 0, 1)) rfl (Or.inr (Or.inr rfl)) ?_
  refine g_iload (k := 4) (x := x4) (by decide +kernel : decode (m_byt 282) 1612 = .ok (.iload 4, 2)) rfl ?_
  refine g_base (by decide +kernel : decode (m_byt 282) 1614 = .ok (.iconst 2, 1)) rfl rfl ?_
  show m_run Z (282, 1615, [(4, x0), (2, ((r1 : Nat) : Int)), l2, (2, ((r3 : Nat) : Int)), (0, x4), l5, l6], [(0, 2), (0, x4), (4, x0), (0, (Z.2 (w32 (x4 + 1)).toNat).toInt), (2, ((r1 : Nat) : Int))], h) = _
  refine g_base (by decide +kernel : decode (m_byt 282) 1615 = .ok (.iadd, 1)) rfl rfl ?_
  show m_run Z (282, 1616, [(4, x0), (2, ((r1 : Nat) : Int)), l2, (2, ((r3 : Nat) : Int)), (0, x4), l5, l6], [(0, (x4 + 2)), (4, x0), (0, (Z.2 (w32 (x4 + 1)).toNat).toInt), (2, ((r1 : Nat) : Int))], h) = _
  refine g_sald (by decide +kernel : decode (m_byt 282) 1616 = .ok (.iaload, 1)) h2 h3 ?_
  refine g_aload_n (k := 3) (v := (2, ((r3 : Nat) : Int))) (by decide +kernel : decode (m_byt 282) 1617 = .ok (.aload_n 3, 1)) rfl (Or.inl rfl) ?_
  exact g_inv (k := 0) (m' := 270) (np := 4) (as := [(2, ((r1 : Nat) : Int)), (0, (Z.2 (w32 (x4 + 1)).toNat).toInt), (0, (Z.2 (w32 (x4 + 2)).toNat).toInt), (2, ((r3 : Nat) : Int))]) (by decide +kernel : decode (m_byt 282) 1618 = .ok (.invokestatic 190, 3)) (Or.inr (Or.inr ⟨rfl, rfl, by decide, by decide⟩)) (by decide +kernel) (by decide +kernel) (by decide +kernel) (Nat.le_of_ble_eq_true rfl) rfl (Or.inl rfl)
theorem b_282_1621 {Z : mZ} {l1 l3 l5 l6 : mV} {s0 x4 x0 : Int} {r2 : Nat} {K : Nat → mK} {σ : Nat → Nat → Int} {n e s : Nat} (h0 : 0 ≤ w32 (x4 + 1)) (h1 : w32 (x4 + 1) < (Z.1 : Int)) (h2 : 0 ≤ w32 (x4 + 2)) (h3 : w32 (x4 + 2) < (Z.1 : Int)) (h4 : q_ob K n r2 7) : m_run Z (282, 1621, [(4, x0), l1, (2, ((r2 : Nat) : Int)), l3, (0, x4), l5, l6], [(0, s0)], (K, σ, n, e, s)) = (m_cl Z 220 [(2, ((r2 : Nat) : Int)), (0, (Z.2 (w32 (x4 + 1)).toNat).toInt), (0, (Z.2 (w32 (x4 + 2)).toNat).toInt)] (K, σ, n, e, s)).bind (m_aft (m_run Z) 282 1636 [(4, x0), l1, (2, ((r2 : Nat) : Int)), l3, (0, x4), (0, s0), l6] []) := by
  refine g_istore (k := 5) (by decide +kernel : decode (m_byt 282) 1621 = .ok (.istore 5, 2)) (Nat.le_of_ble_eq_true rfl) ?_
  show m_run Z (282, 1623, [(4, x0), l1, (2, ((r2 : Nat) : Int)), l3, (0, x4), (0, s0), l6], [], (K, σ, n, e, s)) = _
  refine g_aload_n (k := 2) (v := (2, ((r2 : Nat) : Int))) (by decide +kernel : decode (m_byt 282) 1623 = .ok (.aload_n 2, 1)) rfl (Or.inl rfl) ?_
  refine g_aload_n (k := 0) (v := (4, x0)) (by decide +kernel : decode (m_byt 282) 1624 = .ok (.aload_n 0, 1)) rfl (Or.inr (Or.inr rfl)) ?_
  refine g_iload (k := 4) (x := x4) (by decide +kernel : decode (m_byt 282) 1625 = .ok (.iload 4, 2)) rfl ?_
  refine g_base (by decide +kernel : decode (m_byt 282) 1627 = .ok (.iconst 1, 1)) rfl rfl ?_
  show m_run Z (282, 1628, [(4, x0), l1, (2, ((r2 : Nat) : Int)), l3, (0, x4), (0, s0), l6], [(0, 1), (0, x4), (4, x0), (2, ((r2 : Nat) : Int))], (K, σ, n, e, s)) = _
  refine g_base (by decide +kernel : decode (m_byt 282) 1628 = .ok (.iadd, 1)) rfl rfl ?_
  show m_run Z (282, 1629, [(4, x0), l1, (2, ((r2 : Nat) : Int)), l3, (0, x4), (0, s0), l6], [(0, (x4 + 1)), (4, x0), (2, ((r2 : Nat) : Int))], (K, σ, n, e, s)) = _
  refine g_sald (by decide +kernel : decode (m_byt 282) 1629 = .ok (.iaload, 1)) h0 h1 ?_
  refine g_aload_n (k := 0) (v := (4, x0)) (by decide +kernel : decode (m_byt 282) 1630 = .ok (.aload_n 0, 1)) rfl (Or.inr (Or.inr rfl)) ?_
  refine g_iload (k := 4) (x := x4) (by decide +kernel : decode (m_byt 282) 1631 = .ok (.iload 4, 2)) rfl ?_
  refine g_base (by decide +kernel : decode (m_byt 282) 1633 = .ok (.iconst 2, 1)) rfl rfl ?_
  show m_run Z (282, 1634, [(4, x0), l1, (2, ((r2 : Nat) : Int)), l3, (0, x4), (0, s0), l6], [(0, 2), (0, x4), (4, x0), (0, (Z.2 (w32 (x4 + 1)).toNat).toInt), (2, ((r2 : Nat) : Int))], (K, σ, n, e, s)) = _
  refine g_base (by decide +kernel : decode (m_byt 282) 1634 = .ok (.iadd, 1)) rfl rfl ?_
  show m_run Z (282, 1635, [(4, x0), l1, (2, ((r2 : Nat) : Int)), l3, (0, x4), (0, s0), l6], [(0, (x4 + 2)), (4, x0), (0, (Z.2 (w32 (x4 + 1)).toNat).toInt), (2, ((r2 : Nat) : Int))], (K, σ, n, e, s)) = _
  refine g_sald (by decide +kernel : decode (m_byt 282) 1635 = .ok (.iaload, 1)) h2 h3 ?_
  exact g_inv (k := 1) (m' := 220) (np := 2) (as := [(2, ((r2 : Nat) : Int)), (0, (Z.2 (w32 (x4 + 1)).toNat).toInt), (0, (Z.2 (w32 (x4 + 2)).toNat).toInt)]) (by decide +kernel : decode (m_byt 282) 1636 = .ok (.invokevirtual 192, 3)) (Or.inl ⟨rfl, rfl⟩) (by decide +kernel) (by decide +kernel) (by decide +kernel) (Nat.le_of_ble_eq_true rfl) rfl (Or.inr (g_rcv (by decide +kernel) h4))
theorem b_282_1639 {Z : mZ} {l0 l1 l3 l4 l6 : mV} {s0 x5 : Int} {r2 : Nat} {K : Nat → mK} {σ : Nat → Nat → Int} {n e s : Nat} (h0 : q_ob K n r2 7) : m_run Z (282, 1639, [l0, l1, (2, ((r2 : Nat) : Int)), l3, l4, (0, x5), l6], [(0, s0)], (K, σ, n, e, s)) = (m_cl Z 150 [(2, ((r2 : Nat) : Int))] (K, σ, n, e, s)).bind (m_aft (m_run Z) 282 1642 [l0, l1, (2, ((r2 : Nat) : Int)), l3, l4, (0, x5), (0, s0)] []) := by
  refine g_istore (k := 6) (by decide +kernel : decode (m_byt 282) 1639 = .ok (.istore 6, 2)) (Nat.le_of_ble_eq_true rfl) ?_
  show m_run Z (282, 1641, [l0, l1, (2, ((r2 : Nat) : Int)), l3, l4, (0, x5), (0, s0)], [], (K, σ, n, e, s)) = _
  refine g_aload_n (k := 2) (v := (2, ((r2 : Nat) : Int))) (by decide +kernel : decode (m_byt 282) 1641 = .ok (.aload_n 2, 1)) rfl (Or.inl rfl) ?_
  exact g_inv (k := 1) (m' := 150) (np := 0) (as := [(2, ((r2 : Nat) : Int))]) (by decide +kernel : decode (m_byt 282) 1642 = .ok (.invokevirtual 125, 3)) (Or.inl ⟨rfl, rfl⟩) (by decide +kernel) (by decide +kernel) (by decide +kernel) (Nat.le_of_ble_eq_true rfl) rfl (Or.inr (g_rcv (by decide +kernel) h0))
theorem b_282_1645 {Z : mZ} {l0 l1 l2 l3 l4 l6 : mV} {s0 x5 : Int} {h : mH} : m_run Z (282, 1645, [l0, l1, l2, l3, l4, (0, x5), l6], [(0, s0)], h) = if w32 s0 = w32 x5 then m_run Z (282, 1652, [l0, l1, l2, l3, l4, (0, x5), l6], [], h) else m_run Z (282, 1650, [l0, l1, l2, l3, l4, (0, x5), l6], [], h) := by
  refine g_iload (k := 5) (x := x5) (by decide +kernel : decode (m_byt 282) 1645 = .ok (.iload 5, 2)) rfl ?_
  exact g_brq (t := 1652) (off := 5) (by decide +kernel : decode (m_byt 282) 1647 = .ok (.if_icmp .eq 5, 3)) rfl rfl (by decide)
theorem b_282_1650 {Z : mZ} {l0 l1 l2 l3 l4 l5 l6 : mV} {h : mH} : m_run Z (282, 1650, [l0, l1, l2, l3, l4, l5, l6], [], h) = some (.inl (0, 0), h) := by
  refine g_base (by decide +kernel : decode (m_byt 282) 1650 = .ok (.iconst 0, 1)) rfl rfl ?_
  show m_run Z (282, 1651, [l0, l1, l2, l3, l4, l5, l6], [(0, 0)], h) = _
  exact g_zret (by decide +kernel : decode (m_byt 282) 1651 = .ok (.ireturn, 1)) (by decide +kernel) (by decide)
theorem b_282_1652 {Z : mZ} {l0 l1 l2 l3 l4 l6 : mV} {x5 : Int} {h : mH} : m_run Z (282, 1652, [l0, l1, l2, l3, l4, (0, x5), l6], [], h) = if w32 x5 = 0 then m_run Z (282, 1657, [l0, l1, l2, l3, l4, (0, x5), l6], [], h) else m_run Z (282, 1669, [l0, l1, l2, l3, l4, (0, x5), l6], [], h) := by
  refine g_iload (k := 5) (x := x5) (by decide +kernel : decode (m_byt 282) 1652 = .ok (.iload 5, 2)) rfl ?_
  exact g_brn (t := 1669) (off := 15) (by decide +kernel : decode (m_byt 282) 1654 = .ok (.ifCond .ne 15, 3)) rfl rfl (by decide)
theorem b_282_1657 {Z : mZ} {l0 l1 l2 l4 l5 : mV} {x6 : Int} {r3 : Nat} {K : Nat → mK} {σ : Nat → Nat → Int} {n e s : Nat} (h0 : 0 ≤ w32 0) (h1 : w32 0 < (q_ln K r3 : Int)) (h2 : q_ak K n r3 3) : m_run Z (282, 1657, [l0, l1, l2, (2, ((r3 : Nat) : Int)), l4, l5, (0, x6)], [], (K, σ, n, e, s)) = if w32 (l_cmp (σ r3 (w32 0).toNat) (w32 x6)) = 0 then m_run Z (282, 1669, [l0, l1, l2, (2, ((r3 : Nat) : Int)), l4, l5, (0, x6)], [], (K, σ, n, e, s)) else m_run Z (282, 1667, [l0, l1, l2, (2, ((r3 : Nat) : Int)), l4, l5, (0, x6)], [], (K, σ, n, e, s)) := by
  refine g_aload_n (k := 3) (v := (2, ((r3 : Nat) : Int))) (by decide +kernel : decode (m_byt 282) 1657 = .ok (.aload_n 3, 1)) rfl (Or.inl rfl) ?_
  refine g_base (by decide +kernel : decode (m_byt 282) 1658 = .ok (.iconst 0, 1)) rfl rfl ?_
  show m_run Z (282, 1659, [l0, l1, l2, (2, ((r3 : Nat) : Int)), l4, l5, (0, x6)], [(0, 0), (2, ((r3 : Nat) : Int))], (K, σ, n, e, s)) = _
  refine g_lald (by decide +kernel : decode (m_byt 282) 1659 = .ok (.laload, 1)) h2 h0 h1 ?_
  refine g_iload (k := 6) (x := x6) (by decide +kernel : decode (m_byt 282) 1660 = .ok (.iload 6, 2)) rfl ?_
  refine g_base (by decide +kernel : decode (m_byt 282) 1662 = .ok (.i2l, 1)) rfl rfl ?_
  show m_run Z (282, 1663, [l0, l1, l2, (2, ((r3 : Nat) : Int)), l4, l5, (0, x6)], [(1, (w32 x6)), (1, (σ r3 (w32 0).toNat))], (K, σ, n, e, s)) = _
  refine g_base (by decide +kernel : decode (m_byt 282) 1663 = .ok (.lcmp, 1)) rfl rfl ?_
  show m_run Z (282, 1664, [l0, l1, l2, (2, ((r3 : Nat) : Int)), l4, l5, (0, x6)], [(0, (l_cmp (σ r3 (w32 0).toNat) (w32 x6)))], (K, σ, n, e, s)) = _
  exact g_brq (t := 1669) (off := 5) (by decide +kernel : decode (m_byt 282) 1664 = .ok (.ifCond .eq 5, 3)) rfl rfl (by decide)
theorem b_282_1667 {Z : mZ} {l0 l1 l2 l3 l4 l5 l6 : mV} {h : mH} : m_run Z (282, 1667, [l0, l1, l2, l3, l4, l5, l6], [], h) = some (.inl (0, 0), h) := by
  refine g_base (by decide +kernel : decode (m_byt 282) 1667 = .ok (.iconst 0, 1)) rfl rfl ?_
  show m_run Z (282, 1668, [l0, l1, l2, l3, l4, l5, l6], [(0, 0)], h) = _
  exact g_zret (by decide +kernel : decode (m_byt 282) 1668 = .ok (.ireturn, 1)) (by decide +kernel) (by decide)
theorem b_282_1669 {Z : mZ} {l0 l1 l2 l5 l6 : mV} {x4 : Int} {r3 : Nat} {h : mH} : m_run Z (282, 1669, [l0, l1, l2, (2, ((r3 : Nat) : Int)), (0, x4), l5, l6], [], h) = m_run Z (282, 23, [l0, l1, l2, (2, ((r3 : Nat) : Int)), (0, x4 + 6), l5, l6], [], h) := by
  refine g_jmp (t := 2388) (by decide +kernel : decode (m_byt 282) 1669 = .ok (.goto 719, 3)) (by decide) ?_
  refine g_iinc (k := 4) (x := x4) (by decide +kernel : decode (m_byt 282) 2388 = .ok (.iinc 4 6, 3)) rfl (Nat.le_of_ble_eq_true rfl) ?_
  show m_run Z (282, 2391, [l0, l1, l2, (2, ((r3 : Nat) : Int)), (0, x4 + 6), l5, l6], [], h) = _
  refine g_jmp (t := 23) (by decide +kernel : decode (m_byt 282) 2391 = .ok (.goto (-2368), 3)) (by decide) ?_
  rfl
theorem b_282_1672 {Z : mZ} {l2 l5 l6 : mV} {x0 x4 : Int} {r1 r3 : Nat} {h : mH} (h0 : 0 ≤ w32 (x4 + 1)) (h1 : w32 (x4 + 1) < (Z.1 : Int)) : m_run Z (282, 1672, [(4, x0), (2, ((r1 : Nat) : Int)), l2, (2, ((r3 : Nat) : Int)), (0, x4), l5, l6], [], h) = (m_cl Z 271 [(2, ((r1 : Nat) : Int)), (0, (Z.2 (w32 (x4 + 1)).toNat).toInt), (2, ((r3 : Nat) : Int))] h).bind (m_aft (m_run Z) 282 1680 [(4, x0), (2, ((r1 : Nat) : Int)), l2, (2, ((r3 : Nat) : Int)), (0, x4), l5, l6] []) := by
  refine g_aload_n (k := 1) (v := (2, ((r1 : Nat) : Int))) (by decide +kernel : decode (m_byt 282) 1672 = .ok (.aload_n 1, 1)) rfl (Or.inl rfl) ?_
  refine g_aload_n (k := 0) (v := (4, x0)) (by decide +kernel : decode (m_byt 282) 1673 = .ok (.aload_n 0, 1)) rfl (Or.inr (Or.inr rfl)) ?_
  refine g_iload (k := 4) (x := x4) (by decide +kernel : decode (m_byt 282) 1674 = .ok (.iload 4, 2)) rfl ?_
  refine g_base (by decide +kernel : decode (m_byt 282) 1676 = .ok (.iconst 1, 1)) rfl rfl ?_
  show m_run Z (282, 1677, [(4, x0), (2, ((r1 : Nat) : Int)), l2, (2, ((r3 : Nat) : Int)), (0, x4), l5, l6], [(0, 1), (0, x4), (4, x0), (2, ((r1 : Nat) : Int))], h) = _
  refine g_base (by decide +kernel : decode (m_byt 282) 1677 = .ok (.iadd, 1)) rfl rfl ?_
  show m_run Z (282, 1678, [(4, x0), (2, ((r1 : Nat) : Int)), l2, (2, ((r3 : Nat) : Int)), (0, x4), l5, l6], [(0, (x4 + 1)), (4, x0), (2, ((r1 : Nat) : Int))], h) = _
  refine g_sald (by decide +kernel : decode (m_byt 282) 1678 = .ok (.iaload, 1)) h0 h1 ?_
  refine g_aload_n (k := 3) (v := (2, ((r3 : Nat) : Int))) (by decide +kernel : decode (m_byt 282) 1679 = .ok (.aload_n 3, 1)) rfl (Or.inl rfl) ?_
  exact g_inv (k := 0) (m' := 271) (np := 3) (as := [(2, ((r1 : Nat) : Int)), (0, (Z.2 (w32 (x4 + 1)).toNat).toInt), (2, ((r3 : Nat) : Int))]) (by decide +kernel : decode (m_byt 282) 1680 = .ok (.invokestatic 193, 3)) (Or.inr (Or.inr ⟨rfl, rfl, by decide, by decide⟩)) (by decide +kernel) (by decide +kernel) (by decide +kernel) (Nat.le_of_ble_eq_true rfl) rfl (Or.inl rfl)
theorem b_282_1683 {Z : mZ} {l1 l3 l5 l6 : mV} {s0 x4 x0 : Int} {r2 : Nat} {K : Nat → mK} {σ : Nat → Nat → Int} {n e s : Nat} (h0 : 0 ≤ w32 (x4 + 1)) (h1 : w32 (x4 + 1) < (Z.1 : Int)) (h2 : q_ob K n r2 7) : m_run Z (282, 1683, [(4, x0), l1, (2, ((r2 : Nat) : Int)), l3, (0, x4), l5, l6], [(0, s0)], (K, σ, n, e, s)) = (m_cl Z 222 [(2, ((r2 : Nat) : Int)), (0, (Z.2 (w32 (x4 + 1)).toNat).toInt)] (K, σ, n, e, s)).bind (m_aft (m_run Z) 282 1692 [(4, x0), l1, (2, ((r2 : Nat) : Int)), l3, (0, x4), (0, s0), l6] []) := by
  refine g_istore (k := 5) (by decide +kernel : decode (m_byt 282) 1683 = .ok (.istore 5, 2)) (Nat.le_of_ble_eq_true rfl) ?_
  show m_run Z (282, 1685, [(4, x0), l1, (2, ((r2 : Nat) : Int)), l3, (0, x4), (0, s0), l6], [], (K, σ, n, e, s)) = _
  refine g_aload_n (k := 2) (v := (2, ((r2 : Nat) : Int))) (by decide +kernel : decode (m_byt 282) 1685 = .ok (.aload_n 2, 1)) rfl (Or.inl rfl) ?_
  refine g_aload_n (k := 0) (v := (4, x0)) (by decide +kernel : decode (m_byt 282) 1686 = .ok (.aload_n 0, 1)) rfl (Or.inr (Or.inr rfl)) ?_
  refine g_iload (k := 4) (x := x4) (by decide +kernel : decode (m_byt 282) 1687 = .ok (.iload 4, 2)) rfl ?_
  refine g_base (by decide +kernel : decode (m_byt 282) 1689 = .ok (.iconst 1, 1)) rfl rfl ?_
  show m_run Z (282, 1690, [(4, x0), l1, (2, ((r2 : Nat) : Int)), l3, (0, x4), (0, s0), l6], [(0, 1), (0, x4), (4, x0), (2, ((r2 : Nat) : Int))], (K, σ, n, e, s)) = _
  refine g_base (by decide +kernel : decode (m_byt 282) 1690 = .ok (.iadd, 1)) rfl rfl ?_
  show m_run Z (282, 1691, [(4, x0), l1, (2, ((r2 : Nat) : Int)), l3, (0, x4), (0, s0), l6], [(0, (x4 + 1)), (4, x0), (2, ((r2 : Nat) : Int))], (K, σ, n, e, s)) = _
  refine g_sald (by decide +kernel : decode (m_byt 282) 1691 = .ok (.iaload, 1)) h0 h1 ?_
  exact g_inv (k := 1) (m' := 222) (np := 1) (as := [(2, ((r2 : Nat) : Int)), (0, (Z.2 (w32 (x4 + 1)).toNat).toInt)]) (by decide +kernel : decode (m_byt 282) 1692 = .ok (.invokevirtual 195, 3)) (Or.inl ⟨rfl, rfl⟩) (by decide +kernel) (by decide +kernel) (by decide +kernel) (Nat.le_of_ble_eq_true rfl) rfl (Or.inr (g_rcv (by decide +kernel) h2))
theorem b_282_1695 {Z : mZ} {l0 l1 l3 l4 l6 : mV} {s0 x5 : Int} {r2 : Nat} {K : Nat → mK} {σ : Nat → Nat → Int} {n e s : Nat} (h0 : q_ob K n r2 7) : m_run Z (282, 1695, [l0, l1, (2, ((r2 : Nat) : Int)), l3, l4, (0, x5), l6], [(0, s0)], (K, σ, n, e, s)) = (m_cl Z 150 [(2, ((r2 : Nat) : Int))] (K, σ, n, e, s)).bind (m_aft (m_run Z) 282 1698 [l0, l1, (2, ((r2 : Nat) : Int)), l3, l4, (0, x5), (0, s0)] []) := by
  refine g_istore (k := 6) (by decide +kernel : decode (m_byt 282) 1695 = .ok (.istore 6, 2)) (Nat.le_of_ble_eq_true rfl) ?_
  show m_run Z (282, 1697, [l0, l1, (2, ((r2 : Nat) : Int)), l3, l4, (0, x5), (0, s0)], [], (K, σ, n, e, s)) = _
  refine g_aload_n (k := 2) (v := (2, ((r2 : Nat) : Int))) (by decide +kernel : decode (m_byt 282) 1697 = .ok (.aload_n 2, 1)) rfl (Or.inl rfl) ?_
  exact g_inv (k := 1) (m' := 150) (np := 0) (as := [(2, ((r2 : Nat) : Int))]) (by decide +kernel : decode (m_byt 282) 1698 = .ok (.invokevirtual 125, 3)) (Or.inl ⟨rfl, rfl⟩) (by decide +kernel) (by decide +kernel) (by decide +kernel) (Nat.le_of_ble_eq_true rfl) rfl (Or.inr (g_rcv (by decide +kernel) h0))
theorem b_282_1701 {Z : mZ} {l0 l1 l2 l3 l4 l6 : mV} {s0 x5 : Int} {h : mH} : m_run Z (282, 1701, [l0, l1, l2, l3, l4, (0, x5), l6], [(0, s0)], h) = if w32 s0 = w32 x5 then m_run Z (282, 1708, [l0, l1, l2, l3, l4, (0, x5), l6], [], h) else m_run Z (282, 1706, [l0, l1, l2, l3, l4, (0, x5), l6], [], h) := by
  refine g_iload (k := 5) (x := x5) (by decide +kernel : decode (m_byt 282) 1701 = .ok (.iload 5, 2)) rfl ?_
  exact g_brq (t := 1708) (off := 5) (by decide +kernel : decode (m_byt 282) 1703 = .ok (.if_icmp .eq 5, 3)) rfl rfl (by decide)
theorem b_282_1706 {Z : mZ} {l0 l1 l2 l3 l4 l5 l6 : mV} {h : mH} : m_run Z (282, 1706, [l0, l1, l2, l3, l4, l5, l6], [], h) = some (.inl (0, 0), h) := by
  refine g_base (by decide +kernel : decode (m_byt 282) 1706 = .ok (.iconst 0, 1)) rfl rfl ?_
  show m_run Z (282, 1707, [l0, l1, l2, l3, l4, l5, l6], [(0, 0)], h) = _
  exact g_zret (by decide +kernel : decode (m_byt 282) 1707 = .ok (.ireturn, 1)) (by decide +kernel) (by decide)
theorem b_282_1708 {Z : mZ} {l0 l1 l2 l3 l4 l6 : mV} {x5 : Int} {h : mH} : m_run Z (282, 1708, [l0, l1, l2, l3, l4, (0, x5), l6], [], h) = if w32 x5 = 0 then m_run Z (282, 1713, [l0, l1, l2, l3, l4, (0, x5), l6], [], h) else m_run Z (282, 1725, [l0, l1, l2, l3, l4, (0, x5), l6], [], h) := by
  refine g_iload (k := 5) (x := x5) (by decide +kernel : decode (m_byt 282) 1708 = .ok (.iload 5, 2)) rfl ?_
  exact g_brn (t := 1725) (off := 15) (by decide +kernel : decode (m_byt 282) 1710 = .ok (.ifCond .ne 15, 3)) rfl rfl (by decide)
theorem b_282_1713 {Z : mZ} {l0 l1 l2 l4 l5 : mV} {x6 : Int} {r3 : Nat} {K : Nat → mK} {σ : Nat → Nat → Int} {n e s : Nat} (h0 : 0 ≤ w32 0) (h1 : w32 0 < (q_ln K r3 : Int)) (h2 : q_ak K n r3 3) : m_run Z (282, 1713, [l0, l1, l2, (2, ((r3 : Nat) : Int)), l4, l5, (0, x6)], [], (K, σ, n, e, s)) = if w32 (l_cmp (σ r3 (w32 0).toNat) (w32 x6)) = 0 then m_run Z (282, 1725, [l0, l1, l2, (2, ((r3 : Nat) : Int)), l4, l5, (0, x6)], [], (K, σ, n, e, s)) else m_run Z (282, 1723, [l0, l1, l2, (2, ((r3 : Nat) : Int)), l4, l5, (0, x6)], [], (K, σ, n, e, s)) := by
  refine g_aload_n (k := 3) (v := (2, ((r3 : Nat) : Int))) (by decide +kernel : decode (m_byt 282) 1713 = .ok (.aload_n 3, 1)) rfl (Or.inl rfl) ?_
  refine g_base (by decide +kernel : decode (m_byt 282) 1714 = .ok (.iconst 0, 1)) rfl rfl ?_
  show m_run Z (282, 1715, [l0, l1, l2, (2, ((r3 : Nat) : Int)), l4, l5, (0, x6)], [(0, 0), (2, ((r3 : Nat) : Int))], (K, σ, n, e, s)) = _
  refine g_lald (by decide +kernel : decode (m_byt 282) 1715 = .ok (.laload, 1)) h2 h0 h1 ?_
  refine g_iload (k := 6) (x := x6) (by decide +kernel : decode (m_byt 282) 1716 = .ok (.iload 6, 2)) rfl ?_
  refine g_base (by decide +kernel : decode (m_byt 282) 1718 = .ok (.i2l, 1)) rfl rfl ?_
  show m_run Z (282, 1719, [l0, l1, l2, (2, ((r3 : Nat) : Int)), l4, l5, (0, x6)], [(1, (w32 x6)), (1, (σ r3 (w32 0).toNat))], (K, σ, n, e, s)) = _
  refine g_base (by decide +kernel : decode (m_byt 282) 1719 = .ok (.lcmp, 1)) rfl rfl ?_
  show m_run Z (282, 1720, [l0, l1, l2, (2, ((r3 : Nat) : Int)), l4, l5, (0, x6)], [(0, (l_cmp (σ r3 (w32 0).toNat) (w32 x6)))], (K, σ, n, e, s)) = _
  exact g_brq (t := 1725) (off := 5) (by decide +kernel : decode (m_byt 282) 1720 = .ok (.ifCond .eq 5, 3)) rfl rfl (by decide)
theorem b_282_1723 {Z : mZ} {l0 l1 l2 l3 l4 l5 l6 : mV} {h : mH} : m_run Z (282, 1723, [l0, l1, l2, l3, l4, l5, l6], [], h) = some (.inl (0, 0), h) := by
  refine g_base (by decide +kernel : decode (m_byt 282) 1723 = .ok (.iconst 0, 1)) rfl rfl ?_
  show m_run Z (282, 1724, [l0, l1, l2, l3, l4, l5, l6], [(0, 0)], h) = _
  exact g_zret (by decide +kernel : decode (m_byt 282) 1724 = .ok (.ireturn, 1)) (by decide +kernel) (by decide)
theorem b_282_1725 {Z : mZ} {l0 l1 l2 l5 l6 : mV} {x4 : Int} {r3 : Nat} {h : mH} : m_run Z (282, 1725, [l0, l1, l2, (2, ((r3 : Nat) : Int)), (0, x4), l5, l6], [], h) = m_run Z (282, 23, [l0, l1, l2, (2, ((r3 : Nat) : Int)), (0, x4 + 6), l5, l6], [], h) := by
  refine g_jmp (t := 2388) (by decide +kernel : decode (m_byt 282) 1725 = .ok (.goto 663, 3)) (by decide) ?_
  refine g_iinc (k := 4) (x := x4) (by decide +kernel : decode (m_byt 282) 2388 = .ok (.iinc 4 6, 3)) rfl (Nat.le_of_ble_eq_true rfl) ?_
  show m_run Z (282, 2391, [l0, l1, l2, (2, ((r3 : Nat) : Int)), (0, x4 + 6), l5, l6], [], h) = _
  refine g_jmp (t := 23) (by decide +kernel : decode (m_byt 282) 2391 = .ok (.goto (-2368), 3)) (by decide) ?_
  rfl
theorem b_282_1728 {Z : mZ} {l2 l5 l6 : mV} {x0 x4 : Int} {r1 r3 : Nat} {h : mH} (h0 : 0 ≤ w32 (x4 + 1)) (h1 : w32 (x4 + 1) < (Z.1 : Int)) : m_run Z (282, 1728, [(4, x0), (2, ((r1 : Nat) : Int)), l2, (2, ((r3 : Nat) : Int)), (0, x4), l5, l6], [], h) = (m_cl Z 272 [(2, ((r1 : Nat) : Int)), (0, (Z.2 (w32 (x4 + 1)).toNat).toInt), (2, ((r3 : Nat) : Int))] h).bind (m_aft (m_run Z) 282 1736 [(4, x0), (2, ((r1 : Nat) : Int)), l2, (2, ((r3 : Nat) : Int)), (0, x4), l5, l6] []) := by
  refine g_aload_n (k := 1) (v := (2, ((r1 : Nat) : Int))) (by decide +kernel : decode (m_byt 282) 1728 = .ok (.aload_n 1, 1)) rfl (Or.inl rfl) ?_
  refine g_aload_n (k := 0) (v := (4, x0)) (by decide +kernel : decode (m_byt 282) 1729 = .ok (.aload_n 0, 1)) rfl (Or.inr (Or.inr rfl)) ?_
  refine g_iload (k := 4) (x := x4) (by decide +kernel : decode (m_byt 282) 1730 = .ok (.iload 4, 2)) rfl ?_
  refine g_base (by decide +kernel : decode (m_byt 282) 1732 = .ok (.iconst 1, 1)) rfl rfl ?_
  show m_run Z (282, 1733, [(4, x0), (2, ((r1 : Nat) : Int)), l2, (2, ((r3 : Nat) : Int)), (0, x4), l5, l6], [(0, 1), (0, x4), (4, x0), (2, ((r1 : Nat) : Int))], h) = _
  refine g_base (by decide +kernel : decode (m_byt 282) 1733 = .ok (.iadd, 1)) rfl rfl ?_
  show m_run Z (282, 1734, [(4, x0), (2, ((r1 : Nat) : Int)), l2, (2, ((r3 : Nat) : Int)), (0, x4), l5, l6], [(0, (x4 + 1)), (4, x0), (2, ((r1 : Nat) : Int))], h) = _
  refine g_sald (by decide +kernel : decode (m_byt 282) 1734 = .ok (.iaload, 1)) h0 h1 ?_
  refine g_aload_n (k := 3) (v := (2, ((r3 : Nat) : Int))) (by decide +kernel : decode (m_byt 282) 1735 = .ok (.aload_n 3, 1)) rfl (Or.inl rfl) ?_
  exact g_inv (k := 0) (m' := 272) (np := 3) (as := [(2, ((r1 : Nat) : Int)), (0, (Z.2 (w32 (x4 + 1)).toNat).toInt), (2, ((r3 : Nat) : Int))]) (by decide +kernel : decode (m_byt 282) 1736 = .ok (.invokestatic 196, 3)) (Or.inr (Or.inr ⟨rfl, rfl, by decide, by decide⟩)) (by decide +kernel) (by decide +kernel) (by decide +kernel) (Nat.le_of_ble_eq_true rfl) rfl (Or.inl rfl)
theorem b_282_1739 {Z : mZ} {l1 l3 l5 l6 : mV} {s0 x4 x0 : Int} {r2 : Nat} {K : Nat → mK} {σ : Nat → Nat → Int} {n e s : Nat} (h0 : 0 ≤ w32 (x4 + 1)) (h1 : w32 (x4 + 1) < (Z.1 : Int)) (h2 : q_ob K n r2 7) : m_run Z (282, 1739, [(4, x0), l1, (2, ((r2 : Nat) : Int)), l3, (0, x4), l5, l6], [(0, s0)], (K, σ, n, e, s)) = (m_cl Z 225 [(2, ((r2 : Nat) : Int)), (0, (Z.2 (w32 (x4 + 1)).toNat).toInt)] (K, σ, n, e, s)).bind (m_aft (m_run Z) 282 1748 [(4, x0), l1, (2, ((r2 : Nat) : Int)), l3, (0, x4), (0, s0), l6] []) := by
  refine g_istore (k := 5) (by decide +kernel : decode (m_byt 282) 1739 = .ok (.istore 5, 2)) (Nat.le_of_ble_eq_true rfl) ?_
  show m_run Z (282, 1741, [(4, x0), l1, (2, ((r2 : Nat) : Int)), l3, (0, x4), (0, s0), l6], [], (K, σ, n, e, s)) = _
  refine g_aload_n (k := 2) (v := (2, ((r2 : Nat) : Int))) (by decide +kernel : decode (m_byt 282) 1741 = .ok (.aload_n 2, 1)) rfl (Or.inl rfl) ?_
  refine g_aload_n (k := 0) (v := (4, x0)) (by decide +kernel : decode (m_byt 282) 1742 = .ok (.aload_n 0, 1)) rfl (Or.inr (Or.inr rfl)) ?_
  refine g_iload (k := 4) (x := x4) (by decide +kernel : decode (m_byt 282) 1743 = .ok (.iload 4, 2)) rfl ?_
  refine g_base (by decide +kernel : decode (m_byt 282) 1745 = .ok (.iconst 1, 1)) rfl rfl ?_
  show m_run Z (282, 1746, [(4, x0), l1, (2, ((r2 : Nat) : Int)), l3, (0, x4), (0, s0), l6], [(0, 1), (0, x4), (4, x0), (2, ((r2 : Nat) : Int))], (K, σ, n, e, s)) = _
  refine g_base (by decide +kernel : decode (m_byt 282) 1746 = .ok (.iadd, 1)) rfl rfl ?_
  show m_run Z (282, 1747, [(4, x0), l1, (2, ((r2 : Nat) : Int)), l3, (0, x4), (0, s0), l6], [(0, (x4 + 1)), (4, x0), (2, ((r2 : Nat) : Int))], (K, σ, n, e, s)) = _
  refine g_sald (by decide +kernel : decode (m_byt 282) 1747 = .ok (.iaload, 1)) h0 h1 ?_
  exact g_inv (k := 1) (m' := 225) (np := 1) (as := [(2, ((r2 : Nat) : Int)), (0, (Z.2 (w32 (x4 + 1)).toNat).toInt)]) (by decide +kernel : decode (m_byt 282) 1748 = .ok (.invokevirtual 198, 3)) (Or.inl ⟨rfl, rfl⟩) (by decide +kernel) (by decide +kernel) (by decide +kernel) (Nat.le_of_ble_eq_true rfl) rfl (Or.inr (g_rcv (by decide +kernel) h2))
theorem b_282_1751 {Z : mZ} {l0 l1 l3 l4 l6 : mV} {s0 x5 : Int} {r2 : Nat} {K : Nat → mK} {σ : Nat → Nat → Int} {n e s : Nat} (h0 : q_ob K n r2 7) : m_run Z (282, 1751, [l0, l1, (2, ((r2 : Nat) : Int)), l3, l4, (0, x5), l6], [(0, s0)], (K, σ, n, e, s)) = (m_cl Z 150 [(2, ((r2 : Nat) : Int))] (K, σ, n, e, s)).bind (m_aft (m_run Z) 282 1754 [l0, l1, (2, ((r2 : Nat) : Int)), l3, l4, (0, x5), (0, s0)] []) := by
  refine g_istore (k := 6) (by decide +kernel : decode (m_byt 282) 1751 = .ok (.istore 6, 2)) (Nat.le_of_ble_eq_true rfl) ?_
  show m_run Z (282, 1753, [l0, l1, (2, ((r2 : Nat) : Int)), l3, l4, (0, x5), (0, s0)], [], (K, σ, n, e, s)) = _
  refine g_aload_n (k := 2) (v := (2, ((r2 : Nat) : Int))) (by decide +kernel : decode (m_byt 282) 1753 = .ok (.aload_n 2, 1)) rfl (Or.inl rfl) ?_
  exact g_inv (k := 1) (m' := 150) (np := 0) (as := [(2, ((r2 : Nat) : Int))]) (by decide +kernel : decode (m_byt 282) 1754 = .ok (.invokevirtual 125, 3)) (Or.inl ⟨rfl, rfl⟩) (by decide +kernel) (by decide +kernel) (by decide +kernel) (Nat.le_of_ble_eq_true rfl) rfl (Or.inr (g_rcv (by decide +kernel) h0))
theorem b_282_1757 {Z : mZ} {l0 l1 l2 l3 l4 l6 : mV} {s0 x5 : Int} {h : mH} : m_run Z (282, 1757, [l0, l1, l2, l3, l4, (0, x5), l6], [(0, s0)], h) = if w32 s0 = w32 x5 then m_run Z (282, 1764, [l0, l1, l2, l3, l4, (0, x5), l6], [], h) else m_run Z (282, 1762, [l0, l1, l2, l3, l4, (0, x5), l6], [], h) := by
  refine g_iload (k := 5) (x := x5) (by decide +kernel : decode (m_byt 282) 1757 = .ok (.iload 5, 2)) rfl ?_
  exact g_brq (t := 1764) (off := 5) (by decide +kernel : decode (m_byt 282) 1759 = .ok (.if_icmp .eq 5, 3)) rfl rfl (by decide)
theorem b_282_1762 {Z : mZ} {l0 l1 l2 l3 l4 l5 l6 : mV} {h : mH} : m_run Z (282, 1762, [l0, l1, l2, l3, l4, l5, l6], [], h) = some (.inl (0, 0), h) := by
  refine g_base (by decide +kernel : decode (m_byt 282) 1762 = .ok (.iconst 0, 1)) rfl rfl ?_
  show m_run Z (282, 1763, [l0, l1, l2, l3, l4, l5, l6], [(0, 0)], h) = _
  exact g_zret (by decide +kernel : decode (m_byt 282) 1763 = .ok (.ireturn, 1)) (by decide +kernel) (by decide)
theorem b_282_1764 {Z : mZ} {l0 l1 l2 l3 l4 l6 : mV} {x5 : Int} {h : mH} : m_run Z (282, 1764, [l0, l1, l2, l3, l4, (0, x5), l6], [], h) = if w32 x5 = 0 then m_run Z (282, 1769, [l0, l1, l2, l3, l4, (0, x5), l6], [], h) else m_run Z (282, 1781, [l0, l1, l2, l3, l4, (0, x5), l6], [], h) := by
  refine g_iload (k := 5) (x := x5) (by decide +kernel : decode (m_byt 282) 1764 = .ok (.iload 5, 2)) rfl ?_
  exact g_brn (t := 1781) (off := 15) (by decide +kernel : decode (m_byt 282) 1766 = .ok (.ifCond .ne 15, 3)) rfl rfl (by decide)
theorem b_282_1769 {Z : mZ} {l0 l1 l2 l4 l5 : mV} {x6 : Int} {r3 : Nat} {K : Nat → mK} {σ : Nat → Nat → Int} {n e s : Nat} (h0 : 0 ≤ w32 0) (h1 : w32 0 < (q_ln K r3 : Int)) (h2 : q_ak K n r3 3) : m_run Z (282, 1769, [l0, l1, l2, (2, ((r3 : Nat) : Int)), l4, l5, (0, x6)], [], (K, σ, n, e, s)) = if w32 (l_cmp (σ r3 (w32 0).toNat) (w32 x6)) = 0 then m_run Z (282, 1781, [l0, l1, l2, (2, ((r3 : Nat) : Int)), l4, l5, (0, x6)], [], (K, σ, n, e, s)) else m_run Z (282, 1779, [l0, l1, l2, (2, ((r3 : Nat) : Int)), l4, l5, (0, x6)], [], (K, σ, n, e, s)) := by
  refine g_aload_n (k := 3) (v := (2, ((r3 : Nat) : Int))) (by decide +kernel : decode (m_byt 282) 1769 = .ok (.aload_n 3, 1)) rfl (Or.inl rfl) ?_
  refine g_base (by decide +kernel : decode (m_byt 282) 1770 = .ok (.iconst 0, 1)) rfl rfl ?_
  show m_run Z (282, 1771, [l0, l1, l2, (2, ((r3 : Nat) : Int)), l4, l5, (0, x6)], [(0, 0), (2, ((r3 : Nat) : Int))], (K, σ, n, e, s)) = _
  refine g_lald (by decide +kernel : decode (m_byt 282) 1771 = .ok (.laload, 1)) h2 h0 h1 ?_
  refine g_iload (k := 6) (x := x6) (by decide +kernel : decode (m_byt 282) 1772 = .ok (.iload 6, 2)) rfl ?_
  refine g_base (by decide +kernel : decode (m_byt 282) 1774 = .ok (.i2l, 1)) rfl rfl ?_
  show m_run Z (282, 1775, [l0, l1, l2, (2, ((r3 : Nat) : Int)), l4, l5, (0, x6)], [(1, (w32 x6)), (1, (σ r3 (w32 0).toNat))], (K, σ, n, e, s)) = _
  refine g_base (by decide +kernel : decode (m_byt 282) 1775 = .ok (.lcmp, 1)) rfl rfl ?_
  show m_run Z (282, 1776, [l0, l1, l2, (2, ((r3 : Nat) : Int)), l4, l5, (0, x6)], [(0, (l_cmp (σ r3 (w32 0).toNat) (w32 x6)))], (K, σ, n, e, s)) = _
  exact g_brq (t := 1781) (off := 5) (by decide +kernel : decode (m_byt 282) 1776 = .ok (.ifCond .eq 5, 3)) rfl rfl (by decide)
theorem b_282_1779 {Z : mZ} {l0 l1 l2 l3 l4 l5 l6 : mV} {h : mH} : m_run Z (282, 1779, [l0, l1, l2, l3, l4, l5, l6], [], h) = some (.inl (0, 0), h) := by
  refine g_base (by decide +kernel : decode (m_byt 282) 1779 = .ok (.iconst 0, 1)) rfl rfl ?_
  show m_run Z (282, 1780, [l0, l1, l2, l3, l4, l5, l6], [(0, 0)], h) = _
  exact g_zret (by decide +kernel : decode (m_byt 282) 1780 = .ok (.ireturn, 1)) (by decide +kernel) (by decide)
theorem b_282_1781 {Z : mZ} {l0 l1 l2 l5 l6 : mV} {x4 : Int} {r3 : Nat} {h : mH} : m_run Z (282, 1781, [l0, l1, l2, (2, ((r3 : Nat) : Int)), (0, x4), l5, l6], [], h) = m_run Z (282, 23, [l0, l1, l2, (2, ((r3 : Nat) : Int)), (0, x4 + 6), l5, l6], [], h) := by
  refine g_jmp (t := 2388) (by decide +kernel : decode (m_byt 282) 1781 = .ok (.goto 607, 3)) (by decide) ?_
  refine g_iinc (k := 4) (x := x4) (by decide +kernel : decode (m_byt 282) 2388 = .ok (.iinc 4 6, 3)) rfl (Nat.le_of_ble_eq_true rfl) ?_
  show m_run Z (282, 2391, [l0, l1, l2, (2, ((r3 : Nat) : Int)), (0, x4 + 6), l5, l6], [], h) = _
  refine g_jmp (t := 23) (by decide +kernel : decode (m_byt 282) 2391 = .ok (.goto (-2368), 3)) (by decide) ?_
  rfl
theorem b_282_1784 {Z : mZ} {l2 l5 l6 : mV} {x0 x4 : Int} {r1 r3 : Nat} {h : mH} (h0 : 0 ≤ w32 (x4 + 1)) (h1 : w32 (x4 + 1) < (Z.1 : Int)) (h2 : 0 ≤ w32 (x4 + 2)) (h3 : w32 (x4 + 2) < (Z.1 : Int)) : m_run Z (282, 1784, [(4, x0), (2, ((r1 : Nat) : Int)), l2, (2, ((r3 : Nat) : Int)), (0, x4), l5, l6], [], h) = (m_cl Z 273 [(2, ((r1 : Nat) : Int)), (0, (Z.2 (w32 (x4 + 1)).toNat).toInt), (0, (Z.2 (w32 (x4 + 2)).toNat).toInt), (2, ((r3 : Nat) : Int))] h).bind (m_aft (m_run Z) 282 1798 [(4, x0), (2, ((r1 : Nat) : Int)), l2, (2, ((r3 : Nat) : Int)), (0, x4), l5, l6] []) := by
  refine g_aload_n (k := 1) (v := (2, ((r1 : Nat) : Int))) (by decide +kernel : decode (m_byt 282) 1784 = .ok (.aload_n 1, 1)) rfl (Or.inl rfl) ?_
  refine g_aload_n (k := 0) (v := (4, x0)) (by decide +kernel : decode (m_byt 282) 1785 = .ok (.aload_n 0, 1)) rfl (Or.inr (Or.inr rfl)) ?_
  refine g_iload (k := 4) (x := x4) (by decide +kernel : decode (m_byt 282) 1786 = .ok (.iload 4, 2)) rfl ?_
  refine g_base (by decide +kernel : decode (m_byt 282) 1788 = .ok (.iconst 1, 1)) rfl rfl ?_
  show m_run Z (282, 1789, [(4, x0), (2, ((r1 : Nat) : Int)), l2, (2, ((r3 : Nat) : Int)), (0, x4), l5, l6], [(0, 1), (0, x4), (4, x0), (2, ((r1 : Nat) : Int))], h) = _
  refine g_base (by decide +kernel : decode (m_byt 282) 1789 = .ok (.iadd, 1)) rfl rfl ?_
  show m_run Z (282, 1790, [(4, x0), (2, ((r1 : Nat) : Int)), l2, (2, ((r3 : Nat) : Int)), (0, x4), l5, l6], [(0, (x4 + 1)), (4, x0), (2, ((r1 : Nat) : Int))], h) = _
  refine g_sald (by decide +kernel : decode (m_byt 282) 1790 = .ok (.iaload, 1)) h0 h1 ?_
  refine g_aload_n (k := 0) (v := (4, x0)) (by decide +kernel : decode (m_byt 282) 1791 = .ok (.aload_n 0, 1)) rfl (Or.inr (Or.inr rfl)) ?_
  refine g_iload (k := 4) (x := x4) (by decide +kernel : decode (m_byt 282) 1792 = .ok (.iload 4, 2)) rfl ?_
  refine g_base (by decide +kernel : decode (m_byt 282) 1794 = .ok (.iconst 2, 1)) rfl rfl ?_
  show m_run Z (282, 1795, [(4, x0), (2, ((r1 : Nat) : Int)), l2, (2, ((r3 : Nat) : Int)), (0, x4), l5, l6], [(0, 2), (0, x4), (4, x0), (0, (Z.2 (w32 (x4 + 1)).toNat).toInt), (2, ((r1 : Nat) : Int))], h) = _
  refine g_base (by decide +kernel : decode (m_byt 282) 1795 = .ok (.iadd, 1)) rfl rfl ?_
  show m_run Z (282, 1796, [(4, x0), (2, ((r1 : Nat) : Int)), l2, (2, ((r3 : Nat) : Int)), (0, x4), l5, l6], [(0, (x4 + 2)), (4, x0), (0, (Z.2 (w32 (x4 + 1)).toNat).toInt), (2, ((r1 : Nat) : Int))], h) = _
  refine g_sald (by decide +kernel : decode (m_byt 282) 1796 = .ok (.iaload, 1)) h2 h3 ?_
  refine g_aload_n (k := 3) (v := (2, ((r3 : Nat) : Int))) (by decide +kernel : decode (m_byt 282) 1797 = .ok (.aload_n 3, 1)) rfl (Or.inl rfl) ?_
  exact g_inv (k := 0) (m' := 273) (np := 4) (as := [(2, ((r1 : Nat) : Int)), (0, (Z.2 (w32 (x4 + 1)).toNat).toInt), (0, (Z.2 (w32 (x4 + 2)).toNat).toInt), (2, ((r3 : Nat) : Int))]) (by decide +kernel : decode (m_byt 282) 1798 = .ok (.invokestatic 199, 3)) (Or.inr (Or.inr ⟨rfl, rfl, by decide, by decide⟩)) (by decide +kernel) (by decide +kernel) (by decide +kernel) (Nat.le_of_ble_eq_true rfl) rfl (Or.inl rfl)
theorem b_282_1801 {Z : mZ} {l1 l3 l5 l6 : mV} {s0 x4 x0 : Int} {r2 : Nat} {K : Nat → mK} {σ : Nat → Nat → Int} {n e s : Nat} (h0 : 0 ≤ w32 (x4 + 1)) (h1 : w32 (x4 + 1) < (Z.1 : Int)) (h2 : 0 ≤ w32 (x4 + 2)) (h3 : w32 (x4 + 2) < (Z.1 : Int)) (h4 : q_ob K n r2 7) : m_run Z (282, 1801, [(4, x0), l1, (2, ((r2 : Nat) : Int)), l3, (0, x4), l5, l6], [(0, s0)], (K, σ, n, e, s)) = (m_cl Z 229 [(2, ((r2 : Nat) : Int)), (0, (Z.2 (w32 (x4 + 1)).toNat).toInt), (0, (Z.2 (w32 (x4 + 2)).toNat).toInt)] (K, σ, n, e, s)).bind (m_aft (m_run Z) 282 1816 [(4, x0), l1, (2, ((r2 : Nat) : Int)), l3, (0, x4), (0, s0), l6] []) := by
  refine g_istore (k := 5) (by decide +kernel : decode (m_byt 282) 1801 = .ok (.istore 5, 2)) (Nat.le_of_ble_eq_true rfl) ?_
  show m_run Z (282, 1803, [(4, x0), l1, (2, ((r2 : Nat) : Int)), l3, (0, x4), (0, s0), l6], [], (K, σ, n, e, s)) = _
  refine g_aload_n (k := 2) (v := (2, ((r2 : Nat) : Int))) (by decide +kernel : decode (m_byt 282) 1803 = .ok (.aload_n 2, 1)) rfl (Or.inl rfl) ?_
  refine g_aload_n (k := 0) (v := (4, x0)) (by decide +kernel : decode (m_byt 282) 1804 = .ok (.aload_n 0, 1)) rfl (Or.inr (Or.inr rfl)) ?_
  refine g_iload (k := 4) (x := x4) (by decide +kernel : decode (m_byt 282) 1805 = .ok (.iload 4, 2)) rfl ?_
  refine g_base (by decide +kernel : decode (m_byt 282) 1807 = .ok (.iconst 1, 1)) rfl rfl ?_
  show m_run Z (282, 1808, [(4, x0), l1, (2, ((r2 : Nat) : Int)), l3, (0, x4), (0, s0), l6], [(0, 1), (0, x4), (4, x0), (2, ((r2 : Nat) : Int))], (K, σ, n, e, s)) = _
  refine g_base (by decide +kernel : decode (m_byt 282) 1808 = .ok (.iadd, 1)) rfl rfl ?_
  show m_run Z (282, 1809, [(4, x0), l1, (2, ((r2 : Nat) : Int)), l3, (0, x4), (0, s0), l6], [(0, (x4 + 1)), (4, x0), (2, ((r2 : Nat) : Int))], (K, σ, n, e, s)) = _
  refine g_sald (by decide +kernel : decode (m_byt 282) 1809 = .ok (.iaload, 1)) h0 h1 ?_
  refine g_aload_n (k := 0) (v := (4, x0)) (by decide +kernel : decode (m_byt 282) 1810 = .ok (.aload_n 0, 1)) rfl (Or.inr (Or.inr rfl)) ?_
  refine g_iload (k := 4) (x := x4) (by decide +kernel : decode (m_byt 282) 1811 = .ok (.iload 4, 2)) rfl ?_
  refine g_base (by decide +kernel : decode (m_byt 282) 1813 = .ok (.iconst 2, 1)) rfl rfl ?_
  show m_run Z (282, 1814, [(4, x0), l1, (2, ((r2 : Nat) : Int)), l3, (0, x4), (0, s0), l6], [(0, 2), (0, x4), (4, x0), (0, (Z.2 (w32 (x4 + 1)).toNat).toInt), (2, ((r2 : Nat) : Int))], (K, σ, n, e, s)) = _
  refine g_base (by decide +kernel : decode (m_byt 282) 1814 = .ok (.iadd, 1)) rfl rfl ?_
  show m_run Z (282, 1815, [(4, x0), l1, (2, ((r2 : Nat) : Int)), l3, (0, x4), (0, s0), l6], [(0, (x4 + 2)), (4, x0), (0, (Z.2 (w32 (x4 + 1)).toNat).toInt), (2, ((r2 : Nat) : Int))], (K, σ, n, e, s)) = _
  refine g_sald (by decide +kernel : decode (m_byt 282) 1815 = .ok (.iaload, 1)) h2 h3 ?_
  exact g_inv (k := 1) (m' := 229) (np := 2) (as := [(2, ((r2 : Nat) : Int)), (0, (Z.2 (w32 (x4 + 1)).toNat).toInt), (0, (Z.2 (w32 (x4 + 2)).toNat).toInt)]) (by decide +kernel : decode (m_byt 282) 1816 = .ok (.invokevirtual 201, 3)) (Or.inl ⟨rfl, rfl⟩) (by decide +kernel) (by decide +kernel) (by decide +kernel) (Nat.le_of_ble_eq_true rfl) rfl (Or.inr (g_rcv (by decide +kernel) h4))
theorem b_282_1819 {Z : mZ} {l0 l1 l3 l4 l6 : mV} {s0 x5 : Int} {r2 : Nat} {K : Nat → mK} {σ : Nat → Nat → Int} {n e s : Nat} (h0 : q_ob K n r2 7) : m_run Z (282, 1819, [l0, l1, (2, ((r2 : Nat) : Int)), l3, l4, (0, x5), l6], [(0, s0)], (K, σ, n, e, s)) = (m_cl Z 150 [(2, ((r2 : Nat) : Int))] (K, σ, n, e, s)).bind (m_aft (m_run Z) 282 1822 [l0, l1, (2, ((r2 : Nat) : Int)), l3, l4, (0, x5), (0, s0)] []) := by
  refine g_istore (k := 6) (by decide +kernel : decode (m_byt 282) 1819 = .ok (.istore 6, 2)) (Nat.le_of_ble_eq_true rfl) ?_
  show m_run Z (282, 1821, [l0, l1, (2, ((r2 : Nat) : Int)), l3, l4, (0, x5), (0, s0)], [], (K, σ, n, e, s)) = _
  refine g_aload_n (k := 2) (v := (2, ((r2 : Nat) : Int))) (by decide +kernel : decode (m_byt 282) 1821 = .ok (.aload_n 2, 1)) rfl (Or.inl rfl) ?_
  exact g_inv (k := 1) (m' := 150) (np := 0) (as := [(2, ((r2 : Nat) : Int))]) (by decide +kernel : decode (m_byt 282) 1822 = .ok (.invokevirtual 125, 3)) (Or.inl ⟨rfl, rfl⟩) (by decide +kernel) (by decide +kernel) (by decide +kernel) (Nat.le_of_ble_eq_true rfl) rfl (Or.inr (g_rcv (by decide +kernel) h0))
theorem b_282_1825 {Z : mZ} {l0 l1 l2 l3 l4 l6 : mV} {s0 x5 : Int} {h : mH} : m_run Z (282, 1825, [l0, l1, l2, l3, l4, (0, x5), l6], [(0, s0)], h) = if w32 s0 = w32 x5 then m_run Z (282, 1832, [l0, l1, l2, l3, l4, (0, x5), l6], [], h) else m_run Z (282, 1830, [l0, l1, l2, l3, l4, (0, x5), l6], [], h) := by
  refine g_iload (k := 5) (x := x5) (by decide +kernel : decode (m_byt 282) 1825 = .ok (.iload 5, 2)) rfl ?_
  exact g_brq (t := 1832) (off := 5) (by decide +kernel : decode (m_byt 282) 1827 = .ok (.if_icmp .eq 5, 3)) rfl rfl (by decide)
theorem b_282_1830 {Z : mZ} {l0 l1 l2 l3 l4 l5 l6 : mV} {h : mH} : m_run Z (282, 1830, [l0, l1, l2, l3, l4, l5, l6], [], h) = some (.inl (0, 0), h) := by
  refine g_base (by decide +kernel : decode (m_byt 282) 1830 = .ok (.iconst 0, 1)) rfl rfl ?_
  show m_run Z (282, 1831, [l0, l1, l2, l3, l4, l5, l6], [(0, 0)], h) = _
  exact g_zret (by decide +kernel : decode (m_byt 282) 1831 = .ok (.ireturn, 1)) (by decide +kernel) (by decide)
theorem b_282_1832 {Z : mZ} {l0 l1 l2 l3 l4 l6 : mV} {x5 : Int} {h : mH} : m_run Z (282, 1832, [l0, l1, l2, l3, l4, (0, x5), l6], [], h) = if w32 x5 = 0 then m_run Z (282, 1837, [l0, l1, l2, l3, l4, (0, x5), l6], [], h) else m_run Z (282, 1849, [l0, l1, l2, l3, l4, (0, x5), l6], [], h) := by
  refine g_iload (k := 5) (x := x5) (by decide +kernel : decode (m_byt 282) 1832 = .ok (.iload 5, 2)) rfl ?_
  exact g_brn (t := 1849) (off := 15) (by decide +kernel : decode (m_byt 282) 1834 = .ok (.ifCond .ne 15, 3)) rfl rfl (by decide)
theorem b_282_1837 {Z : mZ} {l0 l1 l2 l4 l5 : mV} {x6 : Int} {r3 : Nat} {K : Nat → mK} {σ : Nat → Nat → Int} {n e s : Nat} (h0 : 0 ≤ w32 0) (h1 : w32 0 < (q_ln K r3 : Int)) (h2 : q_ak K n r3 3) : m_run Z (282, 1837, [l0, l1, l2, (2, ((r3 : Nat) : Int)), l4, l5, (0, x6)], [], (K, σ, n, e, s)) = if w32 (l_cmp (σ r3 (w32 0).toNat) (w32 x6)) = 0 then m_run Z (282, 1849, [l0, l1, l2, (2, ((r3 : Nat) : Int)), l4, l5, (0, x6)], [], (K, σ, n, e, s)) else m_run Z (282, 1847, [l0, l1, l2, (2, ((r3 : Nat) : Int)), l4, l5, (0, x6)], [], (K, σ, n, e, s)) := by
  refine g_aload_n (k := 3) (v := (2, ((r3 : Nat) : Int))) (by decide +kernel : decode (m_byt 282) 1837 = .ok (.aload_n 3, 1)) rfl (Or.inl rfl) ?_
  refine g_base (by decide +kernel : decode (m_byt 282) 1838 = .ok (.iconst 0, 1)) rfl rfl ?_
  show m_run Z (282, 1839, [l0, l1, l2, (2, ((r3 : Nat) : Int)), l4, l5, (0, x6)], [(0, 0), (2, ((r3 : Nat) : Int))], (K, σ, n, e, s)) = _
  refine g_lald (by decide +kernel : decode (m_byt 282) 1839 = .ok (.laload, 1)) h2 h0 h1 ?_
  refine g_iload (k := 6) (x := x6) (by decide +kernel : decode (m_byt 282) 1840 = .ok (.iload 6, 2)) rfl ?_
  refine g_base (by decide +kernel : decode (m_byt 282) 1842 = .ok (.i2l, 1)) rfl rfl ?_
  show m_run Z (282, 1843, [l0, l1, l2, (2, ((r3 : Nat) : Int)), l4, l5, (0, x6)], [(1, (w32 x6)), (1, (σ r3 (w32 0).toNat))], (K, σ, n, e, s)) = _
  refine g_base (by decide +kernel : decode (m_byt 282) 1843 = .ok (.lcmp, 1)) rfl rfl ?_
  show m_run Z (282, 1844, [l0, l1, l2, (2, ((r3 : Nat) : Int)), l4, l5, (0, x6)], [(0, (l_cmp (σ r3 (w32 0).toNat) (w32 x6)))], (K, σ, n, e, s)) = _
  exact g_brq (t := 1849) (off := 5) (by decide +kernel : decode (m_byt 282) 1844 = .ok (.ifCond .eq 5, 3)) rfl rfl (by decide)
theorem b_282_1847 {Z : mZ} {l0 l1 l2 l3 l4 l5 l6 : mV} {h : mH} : m_run Z (282, 1847, [l0, l1, l2, l3, l4, l5, l6], [], h) = some (.inl (0, 0), h) := by
  refine g_base (by decide +kernel : decode (m_byt 282) 1847 = .ok (.iconst 0, 1)) rfl rfl ?_
  show m_run Z (282, 1848, [l0, l1, l2, l3, l4, l5, l6], [(0, 0)], h) = _
  exact g_zret (by decide +kernel : decode (m_byt 282) 1848 = .ok (.ireturn, 1)) (by decide +kernel) (by decide)
theorem b_282_1849 {Z : mZ} {l0 l1 l2 l5 l6 : mV} {x4 : Int} {r3 : Nat} {h : mH} : m_run Z (282, 1849, [l0, l1, l2, (2, ((r3 : Nat) : Int)), (0, x4), l5, l6], [], h) = m_run Z (282, 23, [l0, l1, l2, (2, ((r3 : Nat) : Int)), (0, x4 + 6), l5, l6], [], h) := by
  refine g_jmp (t := 2388) (by decide +kernel : decode (m_byt 282) 1849 = .ok (.goto 539, 3)) (by decide) ?_
  refine g_iinc (k := 4) (x := x4) (by decide +kernel : decode (m_byt 282) 2388 = .ok (.iinc 4 6, 3)) rfl (Nat.le_of_ble_eq_true rfl) ?_
  show m_run Z (282, 2391, [l0, l1, l2, (2, ((r3 : Nat) : Int)), (0, x4 + 6), l5, l6], [], h) = _
  refine g_jmp (t := 23) (by decide +kernel : decode (m_byt 282) 2391 = .ok (.goto (-2368), 3)) (by decide) ?_
  rfl
theorem b_282_1852 {Z : mZ} {l2 l5 l6 : mV} {x0 x4 : Int} {r1 r3 : Nat} {h : mH} (h0 : 0 ≤ w32 (x4 + 1)) (h1 : w32 (x4 + 1) < (Z.1 : Int)) (h2 : 0 ≤ w32 (x4 + 2)) (h3 : w32 (x4 + 2) < (Z.1 : Int)) : m_run Z (282, 1852, [(4, x0), (2, ((r1 : Nat) : Int)), l2, (2, ((r3 : Nat) : Int)), (0, x4), l5, l6], [], h) = (m_cl Z 274 [(2, ((r1 : Nat) : Int)), (0, (Z.2 (w32 (x4 + 1)).toNat).toInt), (0, (Z.2 (w32 (x4 + 2)).toNat).toInt), (2, ((r3 : Nat) : Int))] h).bind (m_aft (m_run Z) 282 1866 [(4, x0), (2, ((r1 : Nat) : Int)), l2, (2, ((r3 : Nat) : Int)), (0, x4), l5, l6] []) := by
  refine g_aload_n (k := 1) (v := (2, ((r1 : Nat) : Int))) (by decide +kernel : decode (m_byt 282) 1852 = .ok (.aload_n 1, 1)) rfl (Or.inl rfl) ?_
  refine g_aload_n (k := 0) (v := (4, x0)) (by decide +kernel : decode (m_byt 282) 1853 = .ok (.aload_n 0, 1)) rfl (Or.inr (Or.inr rfl)) ?_
  refine g_iload (k := 4) (x := x4) (by decide +kernel : decode (m_byt 282) 1854 = .ok (.iload 4, 2)) rfl ?_
  refine g_base (by decide +kernel : decode (m_byt 282) 1856 = .ok (.iconst 1, 1)) rfl rfl ?_
  show m_run Z (282, 1857, [(4, x0), (2, ((r1 : Nat) : Int)), l2, (2, ((r3 : Nat) : Int)), (0, x4), l5, l6], [(0, 1), (0, x4), (4, x0), (2, ((r1 : Nat) : Int))], h) = _
  refine g_base (by decide +kernel : decode (m_byt 282) 1857 = .ok (.iadd, 1)) rfl rfl ?_
  show m_run Z (282, 1858, [(4, x0), (2, ((r1 : Nat) : Int)), l2, (2, ((r3 : Nat) : Int)), (0, x4), l5, l6], [(0, (x4 + 1)), (4, x0), (2, ((r1 : Nat) : Int))], h) = _
  refine g_sald (by decide +kernel : decode (m_byt 282) 1858 = .ok (.iaload, 1)) h0 h1 ?_
  refine g_aload_n (k := 0) (v := (4, x0)) (by decide +kernel : decode (m_byt 282) 1859 = .ok (.aload_n 0, 1)) rfl (Or.inr (Or.inr rfl)) ?_
  refine g_iload (k := 4) (x := x4) (by decide +kernel : decode (m_byt 282) 1860 = .ok (.iload 4, 2)) rfl ?_
  refine g_base (by decide +kernel : decode (m_byt 282) 1862 = .ok (.iconst 2, 1)) rfl rfl ?_
  show m_run Z (282, 1863, [(4, x0), (2, ((r1 : Nat) : Int)), l2, (2, ((r3 : Nat) : Int)), (0, x4), l5, l6], [(0, 2), (0, x4), (4, x0), (0, (Z.2 (w32 (x4 + 1)).toNat).toInt), (2, ((r1 : Nat) : Int))], h) = _
  refine g_base (by decide +kernel : decode (m_byt 282) 1863 = .ok (.iadd, 1)) rfl rfl ?_
  show m_run Z (282, 1864, [(4, x0), (2, ((r1 : Nat) : Int)), l2, (2, ((r3 : Nat) : Int)), (0, x4), l5, l6], [(0, (x4 + 2)), (4, x0), (0, (Z.2 (w32 (x4 + 1)).toNat).toInt), (2, ((r1 : Nat) : Int))], h) = _
  refine g_sald (by decide +kernel : decode (m_byt 282) 1864 = .ok (.iaload, 1)) h2 h3 ?_
  refine g_aload_n (k := 3) (v := (2, ((r3 : Nat) : Int))) (by decide +kernel : decode (m_byt 282) 1865 = .ok (.aload_n 3, 1)) rfl (Or.inl rfl) ?_
  exact g_inv (k := 0) (m' := 274) (np := 4) (as := [(2, ((r1 : Nat) : Int)), (0, (Z.2 (w32 (x4 + 1)).toNat).toInt), (0, (Z.2 (w32 (x4 + 2)).toNat).toInt), (2, ((r3 : Nat) : Int))]) (by decide +kernel : decode (m_byt 282) 1866 = .ok (.invokestatic 202, 3)) (Or.inr (Or.inr ⟨rfl, rfl, by decide, by decide⟩)) (by decide +kernel) (by decide +kernel) (by decide +kernel) (Nat.le_of_ble_eq_true rfl) rfl (Or.inl rfl)
theorem b_282_1869 {Z : mZ} {l1 l3 l5 l6 : mV} {s0 x4 x0 : Int} {r2 : Nat} {K : Nat → mK} {σ : Nat → Nat → Int} {n e s : Nat} (h0 : 0 ≤ w32 (x4 + 1)) (h1 : w32 (x4 + 1) < (Z.1 : Int)) (h2 : 0 ≤ w32 (x4 + 2)) (h3 : w32 (x4 + 2) < (Z.1 : Int)) (h4 : q_ob K n r2 7) : m_run Z (282, 1869, [(4, x0), l1, (2, ((r2 : Nat) : Int)), l3, (0, x4), l5, l6], [(0, s0)], (K, σ, n, e, s)) = (m_cl Z 232 [(2, ((r2 : Nat) : Int)), (0, (Z.2 (w32 (x4 + 1)).toNat).toInt), (0, (Z.2 (w32 (x4 + 2)).toNat).toInt)] (K, σ, n, e, s)).bind (m_aft (m_run Z) 282 1884 [(4, x0), l1, (2, ((r2 : Nat) : Int)), l3, (0, x4), (0, s0), l6] []) := by
  refine g_istore (k := 5) (by decide +kernel : decode (m_byt 282) 1869 = .ok (.istore 5, 2)) (Nat.le_of_ble_eq_true rfl) ?_
  show m_run Z (282, 1871, [(4, x0), l1, (2, ((r2 : Nat) : Int)), l3, (0, x4), (0, s0), l6], [], (K, σ, n, e, s)) = _
  refine g_aload_n (k := 2) (v := (2, ((r2 : Nat) : Int))) (by decide +kernel : decode (m_byt 282) 1871 = .ok (.aload_n 2, 1)) rfl (Or.inl rfl) ?_
  refine g_aload_n (k := 0) (v := (4, x0)) (by decide +kernel : decode (m_byt 282) 1872 = .ok (.aload_n 0, 1)) rfl (Or.inr (Or.inr rfl)) ?_
  refine g_iload (k := 4) (x := x4) (by decide +kernel : decode (m_byt 282) 1873 = .ok (.iload 4, 2)) rfl ?_
  refine g_base (by decide +kernel : decode (m_byt 282) 1875 = .ok (.iconst 1, 1)) rfl rfl ?_
  show m_run Z (282, 1876, [(4, x0), l1, (2, ((r2 : Nat) : Int)), l3, (0, x4), (0, s0), l6], [(0, 1), (0, x4), (4, x0), (2, ((r2 : Nat) : Int))], (K, σ, n, e, s)) = _
  refine g_base (by decide +kernel : decode (m_byt 282) 1876 = .ok (.iadd, 1)) rfl rfl ?_
  show m_run Z (282, 1877, [(4, x0), l1, (2, ((r2 : Nat) : Int)), l3, (0, x4), (0, s0), l6], [(0, (x4 + 1)), (4, x0), (2, ((r2 : Nat) : Int))], (K, σ, n, e, s)) = _
  refine g_sald (by decide +kernel : decode (m_byt 282) 1877 = .ok (.iaload, 1)) h0 h1 ?_
  refine g_aload_n (k := 0) (v := (4, x0)) (by decide +kernel : decode (m_byt 282) 1878 = .ok (.aload_n 0, 1)) rfl (Or.inr (Or.inr rfl)) ?_
  refine g_iload (k := 4) (x := x4) (by decide +kernel : decode (m_byt 282) 1879 = .ok (.iload 4, 2)) rfl ?_
  refine g_base (by decide +kernel : decode (m_byt 282) 1881 = .ok (.iconst 2, 1)) rfl rfl ?_
  show m_run Z (282, 1882, [(4, x0), l1, (2, ((r2 : Nat) : Int)), l3, (0, x4), (0, s0), l6], [(0, 2), (0, x4), (4, x0), (0, (Z.2 (w32 (x4 + 1)).toNat).toInt), (2, ((r2 : Nat) : Int))], (K, σ, n, e, s)) = _
  refine g_base (by decide +kernel : decode (m_byt 282) 1882 = .ok (.iadd, 1)) rfl rfl ?_
  show m_run Z (282, 1883, [(4, x0), l1, (2, ((r2 : Nat) : Int)), l3, (0, x4), (0, s0), l6], [(0, (x4 + 2)), (4, x0), (0, (Z.2 (w32 (x4 + 1)).toNat).toInt), (2, ((r2 : Nat) : Int))], (K, σ, n, e, s)) = _
  refine g_sald (by decide +kernel : decode (m_byt 282) 1883 = .ok (.iaload, 1)) h2 h3 ?_
  exact g_inv (k := 1) (m' := 232) (np := 2) (as := [(2, ((r2 : Nat) : Int)), (0, (Z.2 (w32 (x4 + 1)).toNat).toInt), (0, (Z.2 (w32 (x4 + 2)).toNat).toInt)]) (by decide +kernel : decode (m_byt 282) 1884 = .ok (.invokevirtual 204, 3)) (Or.inl ⟨rfl, rfl⟩) (by decide +kernel) (by decide +kernel) (by decide +kernel) (Nat.le_of_ble_eq_true rfl) rfl (Or.inr (g_rcv (by decide +kernel) h4))
theorem b_282_1887 {Z : mZ} {l0 l1 l3 l4 l6 : mV} {s0 x5 : Int} {r2 : Nat} {K : Nat → mK} {σ : Nat → Nat → Int} {n e s : Nat} (h0 : q_ob K n r2 7) : m_run Z (282, 1887, [l0, l1, (2, ((r2 : Nat) : Int)), l3, l4, (0, x5), l6], [(0, s0)], (K, σ, n, e, s)) = (m_cl Z 150 [(2, ((r2 : Nat) : Int))] (K, σ, n, e, s)).bind (m_aft (m_run Z) 282 1890 [l0, l1, (2, ((r2 : Nat) : Int)), l3, l4, (0, x5), (0, s0)] []) := by
  refine g_istore (k := 6) (by decide +kernel : decode (m_byt 282) 1887 = .ok (.istore 6, 2)) (Nat.le_of_ble_eq_true rfl) ?_
  show m_run Z (282, 1889, [l0, l1, (2, ((r2 : Nat) : Int)), l3, l4, (0, x5), (0, s0)], [], (K, σ, n, e, s)) = _
  refine g_aload_n (k := 2) (v := (2, ((r2 : Nat) : Int))) (by decide +kernel : decode (m_byt 282) 1889 = .ok (.aload_n 2, 1)) rfl (Or.inl rfl) ?_
  exact g_inv (k := 1) (m' := 150) (np := 0) (as := [(2, ((r2 : Nat) : Int))]) (by decide +kernel : decode (m_byt 282) 1890 = .ok (.invokevirtual 125, 3)) (Or.inl ⟨rfl, rfl⟩) (by decide +kernel) (by decide +kernel) (by decide +kernel) (Nat.le_of_ble_eq_true rfl) rfl (Or.inr (g_rcv (by decide +kernel) h0))
theorem b_282_1893 {Z : mZ} {l0 l1 l2 l3 l4 l6 : mV} {s0 x5 : Int} {h : mH} : m_run Z (282, 1893, [l0, l1, l2, l3, l4, (0, x5), l6], [(0, s0)], h) = if w32 s0 = w32 x5 then m_run Z (282, 1900, [l0, l1, l2, l3, l4, (0, x5), l6], [], h) else m_run Z (282, 1898, [l0, l1, l2, l3, l4, (0, x5), l6], [], h) := by
  refine g_iload (k := 5) (x := x5) (by decide +kernel : decode (m_byt 282) 1893 = .ok (.iload 5, 2)) rfl ?_
  exact g_brq (t := 1900) (off := 5) (by decide +kernel : decode (m_byt 282) 1895 = .ok (.if_icmp .eq 5, 3)) rfl rfl (by decide)
theorem b_282_1898 {Z : mZ} {l0 l1 l2 l3 l4 l5 l6 : mV} {h : mH} : m_run Z (282, 1898, [l0, l1, l2, l3, l4, l5, l6], [], h) = some (.inl (0, 0), h) := by
  refine g_base (by decide +kernel : decode (m_byt 282) 1898 = .ok (.iconst 0, 1)) rfl rfl ?_
  show m_run Z (282, 1899, [l0, l1, l2, l3, l4, l5, l6], [(0, 0)], h) = _
  exact g_zret (by decide +kernel : decode (m_byt 282) 1899 = .ok (.ireturn, 1)) (by decide +kernel) (by decide)
theorem b_282_1900 {Z : mZ} {l0 l1 l2 l3 l4 l6 : mV} {x5 : Int} {h : mH} : m_run Z (282, 1900, [l0, l1, l2, l3, l4, (0, x5), l6], [], h) = if w32 x5 = 0 then m_run Z (282, 1905, [l0, l1, l2, l3, l4, (0, x5), l6], [], h) else m_run Z (282, 1917, [l0, l1, l2, l3, l4, (0, x5), l6], [], h) := by
  refine g_iload (k := 5) (x := x5) (by decide +kernel : decode (m_byt 282) 1900 = .ok (.iload 5, 2)) rfl ?_
  exact g_brn (t := 1917) (off := 15) (by decide +kernel : decode (m_byt 282) 1902 = .ok (.ifCond .ne 15, 3)) rfl rfl (by decide)
theorem b_282_1905 {Z : mZ} {l0 l1 l2 l4 l5 : mV} {x6 : Int} {r3 : Nat} {K : Nat → mK} {σ : Nat → Nat → Int} {n e s : Nat} (h0 : 0 ≤ w32 0) (h1 : w32 0 < (q_ln K r3 : Int)) (h2 : q_ak K n r3 3) : m_run Z (282, 1905, [l0, l1, l2, (2, ((r3 : Nat) : Int)), l4, l5, (0, x6)], [], (K, σ, n, e, s)) = if w32 (l_cmp (σ r3 (w32 0).toNat) (w32 x6)) = 0 then m_run Z (282, 1917, [l0, l1, l2, (2, ((r3 : Nat) : Int)), l4, l5, (0, x6)], [], (K, σ, n, e, s)) else m_run Z (282, 1915, [l0, l1, l2, (2, ((r3 : Nat) : Int)), l4, l5, (0, x6)], [], (K, σ, n, e, s)) := by
  refine g_aload_n (k := 3) (v := (2, ((r3 : Nat) : Int))) (by decide +kernel : decode (m_byt 282) 1905 = .ok (.aload_n 3, 1)) rfl (Or.inl rfl) ?_
  refine g_base (by decide +kernel : decode (m_byt 282) 1906 = .ok (.iconst 0, 1)) rfl rfl ?_
  show m_run Z (282, 1907, [l0, l1, l2, (2, ((r3 : Nat) : Int)), l4, l5, (0, x6)], [(0, 0), (2, ((r3 : Nat) : Int))], (K, σ, n, e, s)) = _
  refine g_lald (by decide +kernel : decode (m_byt 282) 1907 = .ok (.laload, 1)) h2 h0 h1 ?_
  refine g_iload (k := 6) (x := x6) (by decide +kernel : decode (m_byt 282) 1908 = .ok (.iload 6, 2)) rfl ?_
  refine g_base (by decide +kernel : decode (m_byt 282) 1910 = .ok (.i2l, 1)) rfl rfl ?_
  show m_run Z (282, 1911, [l0, l1, l2, (2, ((r3 : Nat) : Int)), l4, l5, (0, x6)], [(1, (w32 x6)), (1, (σ r3 (w32 0).toNat))], (K, σ, n, e, s)) = _
  refine g_base (by decide +kernel : decode (m_byt 282) 1911 = .ok (.lcmp, 1)) rfl rfl ?_
  show m_run Z (282, 1912, [l0, l1, l2, (2, ((r3 : Nat) : Int)), l4, l5, (0, x6)], [(0, (l_cmp (σ r3 (w32 0).toNat) (w32 x6)))], (K, σ, n, e, s)) = _
  exact g_brq (t := 1917) (off := 5) (by decide +kernel : decode (m_byt 282) 1912 = .ok (.ifCond .eq 5, 3)) rfl rfl (by decide)
theorem b_282_1915 {Z : mZ} {l0 l1 l2 l3 l4 l5 l6 : mV} {h : mH} : m_run Z (282, 1915, [l0, l1, l2, l3, l4, l5, l6], [], h) = some (.inl (0, 0), h) := by
  refine g_base (by decide +kernel : decode (m_byt 282) 1915 = .ok (.iconst 0, 1)) rfl rfl ?_
  show m_run Z (282, 1916, [l0, l1, l2, l3, l4, l5, l6], [(0, 0)], h) = _
  exact g_zret (by decide +kernel : decode (m_byt 282) 1916 = .ok (.ireturn, 1)) (by decide +kernel) (by decide)
theorem b_282_1917 {Z : mZ} {l0 l1 l2 l5 l6 : mV} {x4 : Int} {r3 : Nat} {h : mH} : m_run Z (282, 1917, [l0, l1, l2, (2, ((r3 : Nat) : Int)), (0, x4), l5, l6], [], h) = m_run Z (282, 23, [l0, l1, l2, (2, ((r3 : Nat) : Int)), (0, x4 + 6), l5, l6], [], h) := by
  refine g_jmp (t := 2388) (by decide +kernel : decode (m_byt 282) 1917 = .ok (.goto 471, 3)) (by decide) ?_
  refine g_iinc (k := 4) (x := x4) (by decide +kernel : decode (m_byt 282) 2388 = .ok (.iinc 4 6, 3)) rfl (Nat.le_of_ble_eq_true rfl) ?_
  show m_run Z (282, 2391, [l0, l1, l2, (2, ((r3 : Nat) : Int)), (0, x4 + 6), l5, l6], [], h) = _
  refine g_jmp (t := 23) (by decide +kernel : decode (m_byt 282) 2391 = .ok (.goto (-2368), 3)) (by decide) ?_
  rfl
theorem b_282_1920 {Z : mZ} {l2 l5 l6 : mV} {x0 x4 : Int} {r1 r3 : Nat} {h : mH} (h0 : 0 ≤ w32 (x4 + 1)) (h1 : w32 (x4 + 1) < (Z.1 : Int)) (h2 : 0 ≤ w32 (x4 + 2)) (h3 : w32 (x4 + 2) < (Z.1 : Int)) : m_run Z (282, 1920, [(4, x0), (2, ((r1 : Nat) : Int)), l2, (2, ((r3 : Nat) : Int)), (0, x4), l5, l6], [], h) = (m_cl Z 275 [(2, ((r1 : Nat) : Int)), (0, (Z.2 (w32 (x4 + 1)).toNat).toInt), (0, (Z.2 (w32 (x4 + 2)).toNat).toInt), (2, ((r3 : Nat) : Int))] h).bind (m_aft (m_run Z) 282 1934 [(4, x0), (2, ((r1 : Nat) : Int)), l2, (2, ((r3 : Nat) : Int)), (0, x4), l5, l6] []) := by
  refine g_aload_n (k := 1) (v := (2, ((r1 : Nat) : Int))) (by decide +kernel : decode (m_byt 282) 1920 = .ok (.aload_n 1, 1)) rfl (Or.inl rfl) ?_
  refine g_aload_n (k := 0) (v := (4, x0)) (by decide +kernel : decode (m_byt 282) 1921 = .ok (.aload_n 0, 1)) rfl (Or.inr (Or.inr rfl)) ?_
  refine g_iload (k := 4) (x := x4) (by decide +kernel : decode (m_byt 282) 1922 = .ok (.iload 4, 2)) rfl ?_
  refine g_base (by decide +kernel : decode (m_byt 282) 1924 = .ok (.iconst 1, 1)) rfl rfl ?_
  show m_run Z (282, 1925, [(4, x0), (2, ((r1 : Nat) : Int)), l2, (2, ((r3 : Nat) : Int)), (0, x4), l5, l6], [(0, 1), (0, x4), (4, x0), (2, ((r1 : Nat) : Int))], h) = _
  refine g_base (by decide +kernel : decode (m_byt 282) 1925 = .ok (.iadd, 1)) rfl rfl ?_
  show m_run Z (282, 1926, [(4, x0), (2, ((r1 : Nat) : Int)), l2, (2, ((r3 : Nat) : Int)), (0, x4), l5, l6], [(0, (x4 + 1)), (4, x0), (2, ((r1 : Nat) : Int))], h) = _
  refine g_sald (by decide +kernel : decode (m_byt 282) 1926 = .ok (.iaload, 1)) h0 h1 ?_
  refine g_aload_n (k := 0) (v := (4, x0)) (by decide +kernel : decode (m_byt 282) 1927 = .ok (.aload_n 0, 1)) rfl (Or.inr (Or.inr rfl)) ?_
  refine g_iload (k := 4) (x := x4) (by decide +kernel : decode (m_byt 282) 1928 = .ok (.iload 4, 2)) rfl ?_
  refine g_base (by decide +kernel : decode (m_byt 282) 1930 = .ok (.iconst 2, 1)) rfl rfl ?_
  show m_run Z (282, 1931, [(4, x0), (2, ((r1 : Nat) : Int)), l2, (2, ((r3 : Nat) : Int)), (0, x4), l5, l6], [(0, 2), (0, x4), (4, x0), (0, (Z.2 (w32 (x4 + 1)).toNat).toInt), (2, ((r1 : Nat) : Int))], h) = _
  refine g_base (by decide +kernel : decode (m_byt 282) 1931 = .ok (.iadd, 1)) rfl rfl ?_
  show m_run Z (282, 1932, [(4, x0), (2, ((r1 : Nat) : Int)), l2, (2, ((r3 : Nat) : Int)), (0, x4), l5, l6], [(0, (x4 + 2)), (4, x0), (0, (Z.2 (w32 (x4 + 1)).toNat).toInt), (2, ((r1 : Nat) : Int))], h) = _
  refine g_sald (by decide +kernel : decode (m_byt 282) 1932 = .ok (.iaload, 1)) h2 h3 ?_
  refine g_aload_n (k := 3) (v := (2, ((r3 : Nat) : Int))) (by decide +kernel : decode (m_byt 282) 1933 = .ok (.aload_n 3, 1)) rfl (Or.inl rfl) ?_
  exact g_inv (k := 0) (m' := 275) (np := 4) (as := [(2, ((r1 : Nat) : Int)), (0, (Z.2 (w32 (x4 + 1)).toNat).toInt), (0, (Z.2 (w32 (x4 + 2)).toNat).toInt), (2, ((r3 : Nat) : Int))]) (by decide +kernel : decode (m_byt 282) 1934 = .ok (.invokestatic 205, 3)) (Or.inr (Or.inr ⟨rfl, rfl, by decide, by decide⟩)) (by decide +kernel) (by decide +kernel) (by decide +kernel) (Nat.le_of_ble_eq_true rfl) rfl (Or.inl rfl)
theorem b_282_1937 {Z : mZ} {l1 l3 l5 l6 : mV} {s0 x4 x0 : Int} {r2 : Nat} {K : Nat → mK} {σ : Nat → Nat → Int} {n e s : Nat} (h0 : 0 ≤ w32 (x4 + 1)) (h1 : w32 (x4 + 1) < (Z.1 : Int)) (h2 : 0 ≤ w32 (x4 + 2)) (h3 : w32 (x4 + 2) < (Z.1 : Int)) (h4 : q_ob K n r2 7) : m_run Z (282, 1937, [(4, x0), l1, (2, ((r2 : Nat) : Int)), l3, (0, x4), l5, l6], [(0, s0)], (K, σ, n, e, s)) = (m_cl Z 233 [(2, ((r2 : Nat) : Int)), (0, (Z.2 (w32 (x4 + 1)).toNat).toInt), (0, (Z.2 (w32 (x4 + 2)).toNat).toInt)] (K, σ, n, e, s)).bind (m_aft (m_run Z) 282 1952 [(4, x0), l1, (2, ((r2 : Nat) : Int)), l3, (0, x4), (0, s0), l6] []) := by
  refine g_istore (k := 5) (by decide +kernel : decode (m_byt 282) 1937 = .ok (.istore 5, 2)) (Nat.le_of_ble_eq_true rfl) ?_
  show m_run Z (282, 1939, [(4, x0), l1, (2, ((r2 : Nat) : Int)), l3, (0, x4), (0, s0), l6], [], (K, σ, n, e, s)) = _
  refine g_aload_n (k := 2) (v := (2, ((r2 : Nat) : Int))) (by decide +kernel : decode (m_byt 282) 1939 = .ok (.aload_n 2, 1)) rfl (Or.inl rfl) ?_
  refine g_aload_n (k := 0) (v := (4, x0)) (by decide +kernel : decode (m_byt 282) 1940 = .ok (.aload_n 0, 1)) rfl (Or.inr (Or.inr rfl)) ?_
  refine g_iload (k := 4) (x := x4) (by decide +kernel : decode (m_byt 282) 1941 = .ok (.iload 4, 2)) rfl ?_
  refine g_base (by decide +kernel : decode (m_byt 282) 1943 = .ok (.iconst 1, 1)) rfl rfl ?_
  show m_run Z (282, 1944, [(4, x0), l1, (2, ((r2 : Nat) : Int)), l3, (0, x4), (0, s0), l6], [(0, 1), (0, x4), (4, x0), (2, ((r2 : Nat) : Int))], (K, σ, n, e, s)) = _
  refine g_base (by decide +kernel : decode (m_byt 282) 1944 = .ok (.iadd, 1)) rfl rfl ?_
  show m_run Z (282, 1945, [(4, x0), l1, (2, ((r2 : Nat) : Int)), l3, (0, x4), (0, s0), l6], [(0, (x4 + 1)), (4, x0), (2, ((r2 : Nat) : Int))], (K, σ, n, e, s)) = _
  refine g_sald (by decide +kernel : decode (m_byt 282) 1945 = .ok (.iaload, 1)) h0 h1 ?_
  refine g_aload_n (k := 0) (v := (4, x0)) (by decide +kernel : decode (m_byt 282) 1946 = .ok (.aload_n 0, 1)) rfl (Or.inr (Or.inr rfl)) ?_
  refine g_iload (k := 4) (x := x4) (by decide +kernel : decode (m_byt 282) 1947 = .ok (.iload 4, 2)) rfl ?_
  refine g_base (by decide +kernel : decode (m_byt 282) 1949 = .ok (.iconst 2, 1)) rfl rfl ?_
  show m_run Z (282, 1950, [(4, x0), l1, (2, ((r2 : Nat) : Int)), l3, (0, x4), (0, s0), l6], [(0, 2), (0, x4), (4, x0), (0, (Z.2 (w32 (x4 + 1)).toNat).toInt), (2, ((r2 : Nat) : Int))], (K, σ, n, e, s)) = _
  refine g_base (by decide +kernel : decode (m_byt 282) 1950 = .ok (.iadd, 1)) rfl rfl ?_
  show m_run Z (282, 1951, [(4, x0), l1, (2, ((r2 : Nat) : Int)), l3, (0, x4), (0, s0), l6], [(0, (x4 + 2)), (4, x0), (0, (Z.2 (w32 (x4 + 1)).toNat).toInt), (2, ((r2 : Nat) : Int))], (K, σ, n, e, s)) = _
  refine g_sald (by decide +kernel : decode (m_byt 282) 1951 = .ok (.iaload, 1)) h2 h3 ?_
  exact g_inv (k := 1) (m' := 233) (np := 2) (as := [(2, ((r2 : Nat) : Int)), (0, (Z.2 (w32 (x4 + 1)).toNat).toInt), (0, (Z.2 (w32 (x4 + 2)).toNat).toInt)]) (by decide +kernel : decode (m_byt 282) 1952 = .ok (.invokevirtual 207, 3)) (Or.inl ⟨rfl, rfl⟩) (by decide +kernel) (by decide +kernel) (by decide +kernel) (Nat.le_of_ble_eq_true rfl) rfl (Or.inr (g_rcv (by decide +kernel) h4))
theorem b_282_1955 {Z : mZ} {l0 l1 l3 l4 l6 : mV} {s0 x5 : Int} {r2 : Nat} {K : Nat → mK} {σ : Nat → Nat → Int} {n e s : Nat} (h0 : q_ob K n r2 7) : m_run Z (282, 1955, [l0, l1, (2, ((r2 : Nat) : Int)), l3, l4, (0, x5), l6], [(0, s0)], (K, σ, n, e, s)) = (m_cl Z 150 [(2, ((r2 : Nat) : Int))] (K, σ, n, e, s)).bind (m_aft (m_run Z) 282 1958 [l0, l1, (2, ((r2 : Nat) : Int)), l3, l4, (0, x5), (0, s0)] []) := by
  refine g_istore (k := 6) (by decide +kernel : decode (m_byt 282) 1955 = .ok (.istore 6, 2)) (Nat.le_of_ble_eq_true rfl) ?_
  show m_run Z (282, 1957, [l0, l1, (2, ((r2 : Nat) : Int)), l3, l4, (0, x5), (0, s0)], [], (K, σ, n, e, s)) = _
  refine g_aload_n (k := 2) (v := (2, ((r2 : Nat) : Int))) (by decide +kernel : decode (m_byt 282) 1957 = .ok (.aload_n 2, 1)) rfl (Or.inl rfl) ?_
  exact g_inv (k := 1) (m' := 150) (np := 0) (as := [(2, ((r2 : Nat) : Int))]) (by decide +kernel : decode (m_byt 282) 1958 = .ok (.invokevirtual 125, 3)) (Or.inl ⟨rfl, rfl⟩) (by decide +kernel) (by decide +kernel) (by decide +kernel) (Nat.le_of_ble_eq_true rfl) rfl (Or.inr (g_rcv (by decide +kernel) h0))
theorem b_282_1961 {Z : mZ} {l0 l1 l2 l3 l4 l6 : mV} {s0 x5 : Int} {h : mH} : m_run Z (282, 1961, [l0, l1, l2, l3, l4, (0, x5), l6], [(0, s0)], h) = if w32 s0 = w32 x5 then m_run Z (282, 1968, [l0, l1, l2, l3, l4, (0, x5), l6], [], h) else m_run Z (282, 1966, [l0, l1, l2, l3, l4, (0, x5), l6], [], h) := by
  refine g_iload (k := 5) (x := x5) (by decide +kernel : decode (m_byt 282) 1961 = .ok (.iload 5, 2)) rfl ?_
  exact g_brq (t := 1968) (off := 5) (by decide +kernel : decode (m_byt 282) 1963 = .ok (.if_icmp .eq 5, 3)) rfl rfl (by decide)
theorem b_282_1966 {Z : mZ} {l0 l1 l2 l3 l4 l5 l6 : mV} {h : mH} : m_run Z (282, 1966, [l0, l1, l2, l3, l4, l5, l6], [], h) = some (.inl (0, 0), h) := by
  refine g_base (by decide +kernel : decode (m_byt 282) 1966 = .ok (.iconst 0, 1)) rfl rfl ?_
  show m_run Z (282, 1967, [l0, l1, l2, l3, l4, l5, l6], [(0, 0)], h) = _
  exact g_zret (by decide +kernel : decode (m_byt 282) 1967 = .ok (.ireturn, 1)) (by decide +kernel) (by decide)
theorem b_282_1968 {Z : mZ} {l0 l1 l2 l3 l4 l6 : mV} {x5 : Int} {h : mH} : m_run Z (282, 1968, [l0, l1, l2, l3, l4, (0, x5), l6], [], h) = if w32 x5 = 0 then m_run Z (282, 1973, [l0, l1, l2, l3, l4, (0, x5), l6], [], h) else m_run Z (282, 1985, [l0, l1, l2, l3, l4, (0, x5), l6], [], h) := by
  refine g_iload (k := 5) (x := x5) (by decide +kernel : decode (m_byt 282) 1968 = .ok (.iload 5, 2)) rfl ?_
  exact g_brn (t := 1985) (off := 15) (by decide +kernel : decode (m_byt 282) 1970 = .ok (.ifCond .ne 15, 3)) rfl rfl (by decide)
theorem b_282_1973 {Z : mZ} {l0 l1 l2 l4 l5 : mV} {x6 : Int} {r3 : Nat} {K : Nat → mK} {σ : Nat → Nat → Int} {n e s : Nat} (h0 : 0 ≤ w32 0) (h1 : w32 0 < (q_ln K r3 : Int)) (h2 : q_ak K n r3 3) : m_run Z (282, 1973, [l0, l1, l2, (2, ((r3 : Nat) : Int)), l4, l5, (0, x6)], [], (K, σ, n, e, s)) = if w32 (l_cmp (σ r3 (w32 0).toNat) (w32 x6)) = 0 then m_run Z (282, 1985, [l0, l1, l2, (2, ((r3 : Nat) : Int)), l4, l5, (0, x6)], [], (K, σ, n, e, s)) else m_run Z (282, 1983, [l0, l1, l2, (2, ((r3 : Nat) : Int)), l4, l5, (0, x6)], [], (K, σ, n, e, s)) := by
  refine g_aload_n (k := 3) (v := (2, ((r3 : Nat) : Int))) (by decide +kernel : decode (m_byt 282) 1973 = .ok (.aload_n 3, 1)) rfl (Or.inl rfl) ?_
  refine g_base (by decide +kernel : decode (m_byt 282) 1974 = .ok (.iconst 0, 1)) rfl rfl ?_
  show m_run Z (282, 1975, [l0, l1, l2, (2, ((r3 : Nat) : Int)), l4, l5, (0, x6)], [(0, 0), (2, ((r3 : Nat) : Int))], (K, σ, n, e, s)) = _
  refine g_lald (by decide +kernel : decode (m_byt 282) 1975 = .ok (.laload, 1)) h2 h0 h1 ?_
  refine g_iload (k := 6) (x := x6) (by decide +kernel : decode (m_byt 282) 1976 = .ok (.iload 6, 2)) rfl ?_
  refine g_base (by decide +kernel : decode (m_byt 282) 1978 = .ok (.i2l, 1)) rfl rfl ?_
  show m_run Z (282, 1979, [l0, l1, l2, (2, ((r3 : Nat) : Int)), l4, l5, (0, x6)], [(1, (w32 x6)), (1, (σ r3 (w32 0).toNat))], (K, σ, n, e, s)) = _
  refine g_base (by decide +kernel : decode (m_byt 282) 1979 = .ok (.lcmp, 1)) rfl rfl ?_
  show m_run Z (282, 1980, [l0, l1, l2, (2, ((r3 : Nat) : Int)), l4, l5, (0, x6)], [(0, (l_cmp (σ r3 (w32 0).toNat) (w32 x6)))], (K, σ, n, e, s)) = _
  exact g_brq (t := 1985) (off := 5) (by decide +kernel : decode (m_byt 282) 1980 = .ok (.ifCond .eq 5, 3)) rfl rfl (by decide)
theorem b_282_1983 {Z : mZ} {l0 l1 l2 l3 l4 l5 l6 : mV} {h : mH} : m_run Z (282, 1983, [l0, l1, l2, l3, l4, l5, l6], [], h) = some (.inl (0, 0), h) := by
  refine g_base (by decide +kernel : decode (m_byt 282) 1983 = .ok (.iconst 0, 1)) rfl rfl ?_
  show m_run Z (282, 1984, [l0, l1, l2, l3, l4, l5, l6], [(0, 0)], h) = _
  exact g_zret (by decide +kernel : decode (m_byt 282) 1984 = .ok (.ireturn, 1)) (by decide +kernel) (by decide)
theorem b_282_1985 {Z : mZ} {l0 l1 l2 l5 l6 : mV} {x4 : Int} {r3 : Nat} {h : mH} : m_run Z (282, 1985, [l0, l1, l2, (2, ((r3 : Nat) : Int)), (0, x4), l5, l6], [], h) = m_run Z (282, 23, [l0, l1, l2, (2, ((r3 : Nat) : Int)), (0, x4 + 6), l5, l6], [], h) := by
  refine g_jmp (t := 2388) (by decide +kernel : decode (m_byt 282) 1985 = .ok (.goto 403, 3)) (by decide) ?_
  refine g_iinc (k := 4) (x := x4) (by decide +kernel : decode (m_byt 282) 2388 = .ok (.iinc 4 6, 3)) rfl (Nat.le_of_ble_eq_true rfl) ?_
  show m_run Z (282, 2391, [l0, l1, l2, (2, ((r3 : Nat) : Int)), (0, x4 + 6), l5, l6], [], h) = _
  refine g_jmp (t := 23) (by decide +kernel : decode (m_byt 282) 2391 = .ok (.goto (-2368), 3)) (by decide) ?_
  rfl
theorem b_282_1988 {Z : mZ} {l2 l5 l6 : mV} {x0 x4 : Int} {r1 r3 : Nat} {h : mH} (h0 : 0 ≤ w32 (x4 + 1)) (h1 : w32 (x4 + 1) < (Z.1 : Int)) (h2 : 0 ≤ w32 (x4 + 2)) (h3 : w32 (x4 + 2) < (Z.1 : Int)) (h4 : 0 ≤ w32 (x4 + 3)) (h5 : w32 (x4 + 3) < (Z.1 : Int)) : m_run Z (282, 1988, [(4, x0), (2, ((r1 : Nat) : Int)), l2, (2, ((r3 : Nat) : Int)), (0, x4), l5, l6], [], h) = (m_cl Z 276 [(2, ((r1 : Nat) : Int)), (0, (Z.2 (w32 (x4 + 1)).toNat).toInt), (0, (Z.2 (w32 (x4 + 2)).toNat).toInt), (0, (Z.2 (w32 (x4 + 3)).toNat).toInt), (2, ((r3 : Nat) : Int))] h).bind (m_aft (m_run Z) 282 2008 [(4, x0), (2, ((r1 : Nat) : Int)), l2, (2, ((r3 : Nat) : Int)), (0, x4), l5, l6] []) := by
  refine g_aload_n (k := 1) (v := (2, ((r1 : Nat) : Int))) (by decide +kernel : decode (m_byt 282) 1988 = .ok (.aload_n 1, 1)) rfl (Or.inl rfl) ?_
  refine g_aload_n (k := 0) (v := (4, x0)) (by decide +kernel : decode (m_byt 282) 1989 = .ok (.aload_n 0, 1)) rfl (Or.inr (Or.inr rfl)) ?_
  refine g_iload (k := 4) (x := x4) (by decide +kernel : decode (m_byt 282) 1990 = .ok (.iload 4, 2)) rfl ?_
  refine g_base (by decide +kernel : decode (m_byt 282) 1992 = .ok (.iconst 1, 1)) rfl rfl ?_
  show m_run Z (282, 1993, [(4, x0), (2, ((r1 : Nat) : Int)), l2, (2, ((r3 : Nat) : Int)), (0, x4), l5, l6], [(0, 1), (0, x4), (4, x0), (2, ((r1 : Nat) : Int))], h) = _
  refine g_base (by decide +kernel : decode (m_byt 282) 1993 = .ok (.iadd, 1)) rfl rfl ?_
  show m_run Z (282, 1994, [(4, x0), (2, ((r1 : Nat) : Int)), l2, (2, ((r3 : Nat) : Int)), (0, x4), l5, l6], [(0, (x4 + 1)), (4, x0), (2, ((r1 : Nat) : Int))], h) = _
  refine g_sald (by decide +kernel : decode (m_byt 282) 1994 = .ok (.iaload, 1)) h0 h1 ?_
  refine g_aload_n (k := 0) (v := (4, x0)) (by decide +kernel : decode (m_byt 282) 1995 = .ok (.aload_n 0, 1)) rfl (Or.inr (Or.inr rfl)) ?_
  refine g_iload (k := 4) (x := x4) (by decide +kernel : decode (m_byt 282) 1996 = .ok (.iload 4, 2)) rfl ?_
  refine g_base (by decide +kernel : decode (m_byt 282) 1998 = .ok (.iconst 2, 1)) rfl rfl ?_
  show m_run Z (282, 1999, [(4, x0), (2, ((r1 : Nat) : Int)), l2, (2, ((r3 : Nat) : Int)), (0, x4), l5, l6], [(0, 2), (0, x4), (4, x0), (0, (Z.2 (w32 (x4 + 1)).toNat).toInt), (2, ((r1 : Nat) : Int))], h) = _
  refine g_base (by decide +kernel : decode (m_byt 282) 1999 = .ok (.iadd, 1)) rfl rfl ?_
  show m_run Z (282, 2000, [(4, x0), (2, ((r1 : Nat) : Int)), l2, (2, ((r3 : Nat) : Int)), (0, x4), l5, l6], [(0, (x4 + 2)), (4, x0), (0, (Z.2 (w32 (x4 + 1)).toNat).toInt), (2, ((r1 : Nat) : Int))], h) = _
  refine g_sald (by decide +kernel : decode (m_byt 282) 2000 = .ok (.iaload, 1)) h2 h3 ?_
  refine g_aload_n (k := 0) (v := (4, x0)) (by decide +kernel : decode (m_byt 282) 2001 = .ok (.aload_n 0, 1)) rfl (Or.inr (Or.inr rfl)) ?_
  refine g_iload (k := 4) (x := x4) (by decide +kernel : decode (m_byt 282) 2002 = .ok (.iload 4, 2)) rfl ?_
  refine g_base (by decide +kernel : decode (m_byt 282) 2004 = .ok (.iconst 3, 1)) rfl rfl ?_
  show m_run Z (282, 2005, [(4, x0), (2, ((r1 : Nat) : Int)), l2, (2, ((r3 : Nat) : Int)), (0, x4), l5, l6], [(0, 3), (0, x4), (4, x0), (0, (Z.2 (w32 (x4 + 2)).toNat).toInt), (0, (Z.2 (w32 (x4 + 1)).toNat).toInt), (2, ((r1 : Nat) : Int))], h) = _
  refine g_base (by decide +kernel : decode (m_byt 282) 2005 = .ok (.iadd, 1)) rfl rfl ?_
  show m_run Z (282, 2006, [(4, x0), (2, ((r1 : Nat) : Int)), l2, (2, ((r3 : Nat) : Int)), (0, x4), l5, l6], [(0, (x4 + 3)), (4, x0), (0, (Z.2 (w32 (x4 + 2)).toNat).toInt), (0, (Z.2 (w32 (x4 + 1)).toNat).toInt), (2, ((r1 : Nat) : Int))], h) = _
  refine g_sald (by decide +kernel : decode (m_byt 282) 2006 = .ok (.iaload, 1)) h4 h5 ?_
  refine g_aload_n (k := 3) (v := (2, ((r3 : Nat) : Int))) (by decide +kernel : decode (m_byt 282) 2007 = .ok (.aload_n 3, 1)) rfl (Or.inl rfl) ?_
  exact g_inv (k := 0) (m' := 276) (np := 5) (as := [(2, ((r1 : Nat) : Int)), (0, (Z.2 (w32 (x4 + 1)).toNat).toInt), (0, (Z.2 (w32 (x4 + 2)).toNat).toInt), (0, (Z.2 (w32 (x4 + 3)).toNat).toInt), (2, ((r3 : Nat) : Int))]) (by decide +kernel : decode (m_byt 282) 2008 = .ok (.invokestatic 208, 3)) (Or.inr (Or.inr ⟨rfl, rfl, by decide, by decide⟩)) (by decide +kernel) (by decide +kernel) (by decide +kernel) (Nat.le_of_ble_eq_true rfl) rfl (Or.inl rfl)
theorem b_282_2011 {Z : mZ} {l1 l3 l5 l6 : mV} {s0 x4 x0 : Int} {r2 : Nat} {K : Nat → mK} {σ : Nat → Nat → Int} {n e s : Nat} (h0 : 0 ≤ w32 (x4 + 1)) (h1 : w32 (x4 + 1) < (Z.1 : Int)) (h2 : 0 ≤ w32 (x4 + 2)) (h3 : w32 (x4 + 2) < (Z.1 : Int)) (h4 : 0 ≤ w32 (x4 + 3)) (h5 : w32 (x4 + 3) < (Z.1 : Int)) (h6 : q_ob K n r2 7) : m_run Z (282, 2011, [(4, x0), l1, (2, ((r2 : Nat) : Int)), l3, (0, x4), l5, l6], [(0, s0)], (K, σ, n, e, s)) = (m_cl Z 234 [(2, ((r2 : Nat) : Int)), (0, (Z.2 (w32 (x4 + 1)).toNat).toInt), (0, (Z.2 (w32 (x4 + 2)).toNat).toInt), (0, (Z.2 (w32 (x4 + 3)).toNat).toInt)] (K, σ, n, e, s)).bind (m_aft (m_run Z) 282 2032 [(4, x0), l1, (2, ((r2 : Nat) : Int)), l3, (0, x4), (0, s0), l6] []) := by
  refine g_istore (k := 5) (by decide +kernel : decode (m_byt 282) 2011 = .ok (.istore 5, 2)) (Nat.le_of_ble_eq_true rfl) ?_
  show m_run Z (282, 2013, [(4, x0), l1, (2, ((r2 : Nat) : Int)), l3, (0, x4), (0, s0), l6], [], (K, σ, n, e, s)) = _
  refine g_aload_n (k := 2) (v := (2, ((r2 : Nat) : Int))) (by decide +kernel : decode (m_byt 282) 2013 = .ok (.aload_n 2, 1)) rfl (Or.inl rfl) ?_
  refine g_aload_n (k := 0) (v := (4, x0)) (by decide +kernel : decode (m_byt 282) 2014 = .ok (.aload_n 0, 1)) rfl (Or.inr (Or.inr rfl)) ?_
  refine g_iload (k := 4) (x := x4) (by decide +kernel : decode (m_byt 282) 2015 = .ok (.iload 4, 2)) rfl ?_
  refine g_base (by decide +kernel : decode (m_byt 282) 2017 = .ok (.iconst 1, 1)) rfl rfl ?_
  show m_run Z (282, 2018, [(4, x0), l1, (2, ((r2 : Nat) : Int)), l3, (0, x4), (0, s0), l6], [(0, 1), (0, x4), (4, x0), (2, ((r2 : Nat) : Int))], (K, σ, n, e, s)) = _
  refine g_base (by decide +kernel : decode (m_byt 282) 2018 = .ok (.iadd, 1)) rfl rfl ?_
  show m_run Z (282, 2019, [(4, x0), l1, (2, ((r2 : Nat) : Int)), l3, (0, x4), (0, s0), l6], [(0, (x4 + 1)), (4, x0), (2, ((r2 : Nat) : Int))], (K, σ, n, e, s)) = _
  refine g_sald (by decide +kernel : decode (m_byt 282) 2019 = .ok (.iaload, 1)) h0 h1 ?_
  refine g_aload_n (k := 0) (v := (4, x0)) (by decide +kernel : decode (m_byt 282) 2020 = .ok (.aload_n 0, 1)) rfl (Or.inr (Or.inr rfl)) ?_
  refine g_iload (k := 4) (x := x4) (by decide +kernel : decode (m_byt 282) 2021 = .ok (.iload 4, 2)) rfl ?_
  refine g_base (by decide +kernel : decode (m_byt 282) 2023 = .ok (.iconst 2, 1)) rfl rfl ?_
  show m_run Z (282, 2024, [(4, x0), l1, (2, ((r2 : Nat) : Int)), l3, (0, x4), (0, s0), l6], [(0, 2), (0, x4), (4, x0), (0, (Z.2 (w32 (x4 + 1)).toNat).toInt), (2, ((r2 : Nat) : Int))], (K, σ, n, e, s)) = _
  refine g_base (by decide +kernel : decode (m_byt 282) 2024 = .ok (.iadd, 1)) rfl rfl ?_
  show m_run Z (282, 2025, [(4, x0), l1, (2, ((r2 : Nat) : Int)), l3, (0, x4), (0, s0), l6], [(0, (x4 + 2)), (4, x0), (0, (Z.2 (w32 (x4 + 1)).toNat).toInt), (2, ((r2 : Nat) : Int))], (K, σ, n, e, s)) = _
  refine g_sald (by decide +kernel : decode (m_byt 282) 2025 = .ok (.iaload, 1)) h2 h3 ?_
  refine g_aload_n (k := 0) (v := (4, x0)) (by decide +kernel : decode (m_byt 282) 2026 = .ok (.aload_n 0, 1)) rfl (Or.inr (Or.inr rfl)) ?_
  refine g_iload (k := 4) (x := x4) (by decide +kernel : decode (m_byt 282) 2027 = .ok (.iload 4, 2)) rfl ?_
  refine g_base (by decide +kernel : decode (m_byt 282) 2029 = .ok (.iconst 3, 1)) rfl rfl ?_
  show m_run Z (282, 2030, [(4, x0), l1, (2, ((r2 : Nat) : Int)), l3, (0, x4), (0, s0), l6], [(0, 3), (0, x4), (4, x0), (0, (Z.2 (w32 (x4 + 2)).toNat).toInt), (0, (Z.2 (w32 (x4 + 1)).toNat).toInt), (2, ((r2 : Nat) : Int))], (K, σ, n, e, s)) = _
  refine g_base (by decide +kernel : decode (m_byt 282) 2030 = .ok (.iadd, 1)) rfl rfl ?_
  show m_run Z (282, 2031, [(4, x0), l1, (2, ((r2 : Nat) : Int)), l3, (0, x4), (0, s0), l6], [(0, (x4 + 3)), (4, x0), (0, (Z.2 (w32 (x4 + 2)).toNat).toInt), (0, (Z.2 (w32 (x4 + 1)).toNat).toInt), (2, ((r2 : Nat) : Int))], (K, σ, n, e, s)) = _
  refine g_sald (by decide +kernel : decode (m_byt 282) 2031 = .ok (.iaload, 1)) h4 h5 ?_
  exact g_inv (k := 1) (m' := 234) (np := 3) (as := [(2, ((r2 : Nat) : Int)), (0, (Z.2 (w32 (x4 + 1)).toNat).toInt), (0, (Z.2 (w32 (x4 + 2)).toNat).toInt), (0, (Z.2 (w32 (x4 + 3)).toNat).toInt)]) (by decide +kernel : decode (m_byt 282) 2032 = .ok (.invokevirtual 210, 3)) (Or.inl ⟨rfl, rfl⟩) (by decide +kernel) (by decide +kernel) (by decide +kernel) (Nat.le_of_ble_eq_true rfl) rfl (Or.inr (g_rcv (by decide +kernel) h6))
theorem b_282_2035 {Z : mZ} {l0 l1 l3 l4 l6 : mV} {s0 x5 : Int} {r2 : Nat} {K : Nat → mK} {σ : Nat → Nat → Int} {n e s : Nat} (h0 : q_ob K n r2 7) : m_run Z (282, 2035, [l0, l1, (2, ((r2 : Nat) : Int)), l3, l4, (0, x5), l6], [(0, s0)], (K, σ, n, e, s)) = (m_cl Z 150 [(2, ((r2 : Nat) : Int))] (K, σ, n, e, s)).bind (m_aft (m_run Z) 282 2038 [l0, l1, (2, ((r2 : Nat) : Int)), l3, l4, (0, x5), (0, s0)] []) := by
  refine g_istore (k := 6) (by decide +kernel : decode (m_byt 282) 2035 = .ok (.istore 6, 2)) (Nat.le_of_ble_eq_true rfl) ?_
  show m_run Z (282, 2037, [l0, l1, (2, ((r2 : Nat) : Int)), l3, l4, (0, x5), (0, s0)], [], (K, σ, n, e, s)) = _
  refine g_aload_n (k := 2) (v := (2, ((r2 : Nat) : Int))) (by decide +kernel : decode (m_byt 282) 2037 = .ok (.aload_n 2, 1)) rfl (Or.inl rfl) ?_
  exact g_inv (k := 1) (m' := 150) (np := 0) (as := [(2, ((r2 : Nat) : Int))]) (by decide +kernel : decode (m_byt 282) 2038 = .ok (.invokevirtual 125, 3)) (Or.inl ⟨rfl, rfl⟩) (by decide +kernel) (by decide +kernel) (by decide +kernel) (Nat.le_of_ble_eq_true rfl) rfl (Or.inr (g_rcv (by decide +kernel) h0))
theorem b_282_2041 {Z : mZ} {l0 l1 l2 l3 l4 l6 : mV} {s0 x5 : Int} {h : mH} : m_run Z (282, 2041, [l0, l1, l2, l3, l4, (0, x5), l6], [(0, s0)], h) = if w32 s0 = w32 x5 then m_run Z (282, 2048, [l0, l1, l2, l3, l4, (0, x5), l6], [], h) else m_run Z (282, 2046, [l0, l1, l2, l3, l4, (0, x5), l6], [], h) := by
  refine g_iload (k := 5) (x := x5) (by decide +kernel : decode (m_byt 282) 2041 = .ok (.iload 5, 2)) rfl ?_
  exact g_brq (t := 2048) (off := 5) (by decide +kernel : decode (m_byt 282) 2043 = .ok (.if_icmp .eq 5, 3)) rfl rfl (by decide)
theorem b_282_2046 {Z : mZ} {l0 l1 l2 l3 l4 l5 l6 : mV} {h : mH} : m_run Z (282, 2046, [l0, l1, l2, l3, l4, l5, l6], [], h) = some (.inl (0, 0), h) := by
  refine g_base (by decide +kernel : decode (m_byt 282) 2046 = .ok (.iconst 0, 1)) rfl rfl ?_
  show m_run Z (282, 2047, [l0, l1, l2, l3, l4, l5, l6], [(0, 0)], h) = _
  exact g_zret (by decide +kernel : decode (m_byt 282) 2047 = .ok (.ireturn, 1)) (by decide +kernel) (by decide)
theorem b_282_2048 {Z : mZ} {l0 l1 l2 l3 l4 l6 : mV} {x5 : Int} {h : mH} : m_run Z (282, 2048, [l0, l1, l2, l3, l4, (0, x5), l6], [], h) = if w32 x5 = 0 then m_run Z (282, 2053, [l0, l1, l2, l3, l4, (0, x5), l6], [], h) else m_run Z (282, 2065, [l0, l1, l2, l3, l4, (0, x5), l6], [], h) := by
  refine g_iload (k := 5) (x := x5) (by decide +kernel : decode (m_byt 282) 2048 = .ok (.iload 5, 2)) rfl ?_
  exact g_brn (t := 2065) (off := 15) (by decide +kernel : decode (m_byt 282) 2050 = .ok (.ifCond .ne 15, 3)) rfl rfl (by decide)
theorem b_282_2053 {Z : mZ} {l0 l1 l2 l4 l5 : mV} {x6 : Int} {r3 : Nat} {K : Nat → mK} {σ : Nat → Nat → Int} {n e s : Nat} (h0 : 0 ≤ w32 0) (h1 : w32 0 < (q_ln K r3 : Int)) (h2 : q_ak K n r3 3) : m_run Z (282, 2053, [l0, l1, l2, (2, ((r3 : Nat) : Int)), l4, l5, (0, x6)], [], (K, σ, n, e, s)) = if w32 (l_cmp (σ r3 (w32 0).toNat) (w32 x6)) = 0 then m_run Z (282, 2065, [l0, l1, l2, (2, ((r3 : Nat) : Int)), l4, l5, (0, x6)], [], (K, σ, n, e, s)) else m_run Z (282, 2063, [l0, l1, l2, (2, ((r3 : Nat) : Int)), l4, l5, (0, x6)], [], (K, σ, n, e, s)) := by
  refine g_aload_n (k := 3) (v := (2, ((r3 : Nat) : Int))) (by decide +kernel : decode (m_byt 282) 2053 = .ok (.aload_n 3, 1)) rfl (Or.inl rfl) ?_
  refine g_base (by decide +kernel : decode (m_byt 282) 2054 = .ok (.iconst 0, 1)) rfl rfl ?_
  show m_run Z (282, 2055, [l0, l1, l2, (2, ((r3 : Nat) : Int)), l4, l5, (0, x6)], [(0, 0), (2, ((r3 : Nat) : Int))], (K, σ, n, e, s)) = _
  refine g_lald (by decide +kernel : decode (m_byt 282) 2055 = .ok (.laload, 1)) h2 h0 h1 ?_
  refine g_iload (k := 6) (x := x6) (by decide +kernel : decode (m_byt 282) 2056 = .ok (.iload 6, 2)) rfl ?_
  refine g_base (by decide +kernel : decode (m_byt 282) 2058 = .ok (.i2l, 1)) rfl rfl ?_
  show m_run Z (282, 2059, [l0, l1, l2, (2, ((r3 : Nat) : Int)), l4, l5, (0, x6)], [(1, (w32 x6)), (1, (σ r3 (w32 0).toNat))], (K, σ, n, e, s)) = _
  refine g_base (by decide +kernel : decode (m_byt 282) 2059 = .ok (.lcmp, 1)) rfl rfl ?_
  show m_run Z (282, 2060, [l0, l1, l2, (2, ((r3 : Nat) : Int)), l4, l5, (0, x6)], [(0, (l_cmp (σ r3 (w32 0).toNat) (w32 x6)))], (K, σ, n, e, s)) = _
  exact g_brq (t := 2065) (off := 5) (by decide +kernel : decode (m_byt 282) 2060 = .ok (.ifCond .eq 5, 3)) rfl rfl (by decide)
theorem b_282_2063 {Z : mZ} {l0 l1 l2 l3 l4 l5 l6 : mV} {h : mH} : m_run Z (282, 2063, [l0, l1, l2, l3, l4, l5, l6], [], h) = some (.inl (0, 0), h) := by
  refine g_base (by decide +kernel : decode (m_byt 282) 2063 = .ok (.iconst 0, 1)) rfl rfl ?_
  show m_run Z (282, 2064, [l0, l1, l2, l3, l4, l5, l6], [(0, 0)], h) = _
  exact g_zret (by decide +kernel : decode (m_byt 282) 2064 = .ok (.ireturn, 1)) (by decide +kernel) (by decide)
theorem b_282_2065 {Z : mZ} {l0 l1 l2 l5 l6 : mV} {x4 : Int} {r3 : Nat} {h : mH} : m_run Z (282, 2065, [l0, l1, l2, (2, ((r3 : Nat) : Int)), (0, x4), l5, l6], [], h) = m_run Z (282, 23, [l0, l1, l2, (2, ((r3 : Nat) : Int)), (0, x4 + 6), l5, l6], [], h) := by
  refine g_jmp (t := 2388) (by decide +kernel : decode (m_byt 282) 2065 = .ok (.goto 323, 3)) (by decide) ?_
  refine g_iinc (k := 4) (x := x4) (by decide +kernel : decode (m_byt 282) 2388 = .ok (.iinc 4 6, 3)) rfl (Nat.le_of_ble_eq_true rfl) ?_
  show m_run Z (282, 2391, [l0, l1, l2, (2, ((r3 : Nat) : Int)), (0, x4 + 6), l5, l6], [], h) = _
  refine g_jmp (t := 23) (by decide +kernel : decode (m_byt 282) 2391 = .ok (.goto (-2368), 3)) (by decide) ?_
  rfl
theorem b_282_2068 {Z : mZ} {l2 l5 l6 : mV} {x0 x4 : Int} {r1 r3 : Nat} {h : mH} (h0 : 0 ≤ w32 (x4 + 1)) (h1 : w32 (x4 + 1) < (Z.1 : Int)) (h2 : 0 ≤ w32 (x4 + 2)) (h3 : w32 (x4 + 2) < (Z.1 : Int)) : m_run Z (282, 2068, [(4, x0), (2, ((r1 : Nat) : Int)), l2, (2, ((r3 : Nat) : Int)), (0, x4), l5, l6], [], h) = (m_cl Z 277 [(2, ((r1 : Nat) : Int)), (0, (Z.2 (w32 (x4 + 1)).toNat).toInt), (0, (Z.2 (w32 (x4 + 2)).toNat).toInt), (2, ((r3 : Nat) : Int))] h).bind (m_aft (m_run Z) 282 2082 [(4, x0), (2, ((r1 : Nat) : Int)), l2, (2, ((r3 : Nat) : Int)), (0, x4), l5, l6] []) := by
  refine g_aload_n (k := 1) (v := (2, ((r1 : Nat) : Int))) (by decide +kernel : decode (m_byt 282) 2068 = .ok (.aload_n 1, 1)) rfl (Or.inl rfl) ?_
  refine g_aload_n (k := 0) (v := (4, x0)) (by decide +kernel : decode (m_byt 282) 2069 = .ok (.aload_n 0, 1)) rfl (Or.inr (Or.inr rfl)) ?_
  refine g_iload (k := 4) (x := x4) (by decide +kernel : decode (m_byt 282) 2070 = .ok (.iload 4, 2)) rfl ?_
  refine g_base (by decide +kernel : decode (m_byt 282) 2072 = .ok (.iconst 1, 1)) rfl rfl ?_
  show m_run Z (282, 2073, [(4, x0), (2, ((r1 : Nat) : Int)), l2, (2, ((r3 : Nat) : Int)), (0, x4), l5, l6], [(0, 1), (0, x4), (4, x0), (2, ((r1 : Nat) : Int))], h) = _
  refine g_base (by decide +kernel : decode (m_byt 282) 2073 = .ok (.iadd, 1)) rfl rfl ?_
  show m_run Z (282, 2074, [(4, x0), (2, ((r1 : Nat) : Int)), l2, (2, ((r3 : Nat) : Int)), (0, x4), l5, l6], [(0, (x4 + 1)), (4, x0), (2, ((r1 : Nat) : Int))], h) = _
  refine g_sald (by decide +kernel : decode (m_byt 282) 2074 = .ok (.iaload, 1)) h0 h1 ?_
  refine g_aload_n (k := 0) (v := (4, x0)) (by decide +kernel : decode (m_byt 282) 2075 = .ok (.aload_n 0, 1)) rfl (Or.inr (Or.inr rfl)) ?_
  refine g_iload (k := 4) (x := x4) (by decide +kernel : decode (m_byt 282) 2076 = .ok (.iload 4, 2)) rfl ?_
  refine g_base (by decide +kernel : decode (m_byt 282) 2078 = .ok (.iconst 2, 1)) rfl rfl ?_
  show m_run Z (282, 2079, [(4, x0), (2, ((r1 : Nat) : Int)), l2, (2, ((r3 : Nat) : Int)), (0, x4), l5, l6], [(0, 2), (0, x4), (4, x0), (0, (Z.2 (w32 (x4 + 1)).toNat).toInt), (2, ((r1 : Nat) : Int))], h) = _
  refine g_base (by decide +kernel : decode (m_byt 282) 2079 = .ok (.iadd, 1)) rfl rfl ?_
  show m_run Z (282, 2080, [(4, x0), (2, ((r1 : Nat) : Int)), l2, (2, ((r3 : Nat) : Int)), (0, x4), l5, l6], [(0, (x4 + 2)), (4, x0), (0, (Z.2 (w32 (x4 + 1)).toNat).toInt), (2, ((r1 : Nat) : Int))], h) = _
  refine g_sald (by decide +kernel : decode (m_byt 282) 2080 = .ok (.iaload, 1)) h2 h3 ?_
  refine g_aload_n (k := 3) (v := (2, ((r3 : Nat) : Int))) (by decide +kernel : decode (m_byt 282) 2081 = .ok (.aload_n 3, 1)) rfl (Or.inl rfl) ?_
  exact g_inv (k := 0) (m' := 277) (np := 4) (as := [(2, ((r1 : Nat) : Int)), (0, (Z.2 (w32 (x4 + 1)).toNat).toInt), (0, (Z.2 (w32 (x4 + 2)).toNat).toInt), (2, ((r3 : Nat) : Int))]) (by decide +kernel : decode (m_byt 282) 2082 = .ok (.invokestatic 211, 3)) (Or.inr (Or.inr ⟨rfl, rfl, by decide, by decide⟩)) (by decide +kernel) (by decide +kernel) (by decide +kernel) (Nat.le_of_ble_eq_true rfl) rfl (Or.inl rfl)
theorem b_282_2085 {Z : mZ} {l1 l3 l5 l6 : mV} {s0 x4 x0 : Int} {r2 : Nat} {K : Nat → mK} {σ : Nat → Nat → Int} {n e s : Nat} (h0 : 0 ≤ w32 (x4 + 1)) (h1 : w32 (x4 + 1) < (Z.1 : Int)) (h2 : 0 ≤ w32 (x4 + 2)) (h3 : w32 (x4 + 2) < (Z.1 : Int)) (h4 : q_ob K n r2 7) : m_run Z (282, 2085, [(4, x0), l1, (2, ((r2 : Nat) : Int)), l3, (0, x4), l5, l6], [(0, s0)], (K, σ, n, e, s)) = (m_cl Z 235 [(2, ((r2 : Nat) : Int)), (0, (Z.2 (w32 (x4 + 1)).toNat).toInt), (0, (Z.2 (w32 (x4 + 2)).toNat).toInt)] (K, σ, n, e, s)).bind (m_aft (m_run Z) 282 2100 [(4, x0), l1, (2, ((r2 : Nat) : Int)), l3, (0, x4), (0, s0), l6] []) := by
  refine g_istore (k := 5) (by decide +kernel : decode (m_byt 282) 2085 = .ok (.istore 5, 2)) (Nat.le_of_ble_eq_true rfl) ?_
  show m_run Z (282, 2087, [(4, x0), l1, (2, ((r2 : Nat) : Int)), l3, (0, x4), (0, s0), l6], [], (K, σ, n, e, s)) = _
  refine g_aload_n (k := 2) (v := (2, ((r2 : Nat) : Int))) (by decide +kernel : decode (m_byt 282) 2087 = .ok (.aload_n 2, 1)) rfl (Or.inl rfl) ?_
  refine g_aload_n (k := 0) (v := (4, x0)) (by decide +kernel : decode (m_byt 282) 2088 = .ok (.aload_n 0, 1)) rfl (Or.inr (Or.inr rfl)) ?_
  refine g_iload (k := 4) (x := x4) (by decide +kernel : decode (m_byt 282) 2089 = .ok (.iload 4, 2)) rfl ?_
  refine g_base (by decide +kernel : decode (m_byt 282) 2091 = .ok (.iconst 1, 1)) rfl rfl ?_
  show m_run Z (282, 2092, [(4, x0), l1, (2, ((r2 : Nat) : Int)), l3, (0, x4), (0, s0), l6], [(0, 1), (0, x4), (4, x0), (2, ((r2 : Nat) : Int))], (K, σ, n, e, s)) = _
  refine g_base (by decide +kernel : decode (m_byt 282) 2092 = .ok (.iadd, 1)) rfl rfl ?_
  show m_run Z (282, 2093, [(4, x0), l1, (2, ((r2 : Nat) : Int)), l3, (0, x4), (0, s0), l6], [(0, (x4 + 1)), (4, x0), (2, ((r2 : Nat) : Int))], (K, σ, n, e, s)) = _
  refine g_sald (by decide +kernel : decode (m_byt 282) 2093 = .ok (.iaload, 1)) h0 h1 ?_
  refine g_aload_n (k := 0) (v := (4, x0)) (by decide +kernel : decode (m_byt 282) 2094 = .ok (.aload_n 0, 1)) rfl (Or.inr (Or.inr rfl)) ?_
  refine g_iload (k := 4) (x := x4) (by decide +kernel : decode (m_byt 282) 2095 = .ok (.iload 4, 2)) rfl ?_
  refine g_base (by decide +kernel : decode (m_byt 282) 2097 = .ok (.iconst 2, 1)) rfl rfl ?_
  show m_run Z (282, 2098, [(4, x0), l1, (2, ((r2 : Nat) : Int)), l3, (0, x4), (0, s0), l6], [(0, 2), (0, x4), (4, x0), (0, (Z.2 (w32 (x4 + 1)).toNat).toInt), (2, ((r2 : Nat) : Int))], (K, σ, n, e, s)) = _
  refine g_base (by decide +kernel : decode (m_byt 282) 2098 = .ok (.iadd, 1)) rfl rfl ?_
  show m_run Z (282, 2099, [(4, x0), l1, (2, ((r2 : Nat) : Int)), l3, (0, x4), (0, s0), l6], [(0, (x4 + 2)), (4, x0), (0, (Z.2 (w32 (x4 + 1)).toNat).toInt), (2, ((r2 : Nat) : Int))], (K, σ, n, e, s)) = _
  refine g_sald (by decide +kernel : decode (m_byt 282) 2099 = .ok (.iaload, 1)) h2 h3 ?_
  exact g_inv (k := 1) (m' := 235) (np := 2) (as := [(2, ((r2 : Nat) : Int)), (0, (Z.2 (w32 (x4 + 1)).toNat).toInt), (0, (Z.2 (w32 (x4 + 2)).toNat).toInt)]) (by decide +kernel : decode (m_byt 282) 2100 = .ok (.invokevirtual 213, 3)) (Or.inl ⟨rfl, rfl⟩) (by decide +kernel) (by decide +kernel) (by decide +kernel) (Nat.le_of_ble_eq_true rfl) rfl (Or.inr (g_rcv (by decide +kernel) h4))
theorem b_282_2103 {Z : mZ} {l0 l1 l3 l4 l6 : mV} {s0 x5 : Int} {r2 : Nat} {K : Nat → mK} {σ : Nat → Nat → Int} {n e s : Nat} (h0 : q_ob K n r2 7) : m_run Z (282, 2103, [l0, l1, (2, ((r2 : Nat) : Int)), l3, l4, (0, x5), l6], [(0, s0)], (K, σ, n, e, s)) = (m_cl Z 150 [(2, ((r2 : Nat) : Int))] (K, σ, n, e, s)).bind (m_aft (m_run Z) 282 2106 [l0, l1, (2, ((r2 : Nat) : Int)), l3, l4, (0, x5), (0, s0)] []) := by
  refine g_istore (k := 6) (by decide +kernel : decode (m_byt 282) 2103 = .ok (.istore 6, 2)) (Nat.le_of_ble_eq_true rfl) ?_
  show m_run Z (282, 2105, [l0, l1, (2, ((r2 : Nat) : Int)), l3, l4, (0, x5), (0, s0)], [], (K, σ, n, e, s)) = _
  refine g_aload_n (k := 2) (v := (2, ((r2 : Nat) : Int))) (by decide +kernel : decode (m_byt 282) 2105 = .ok (.aload_n 2, 1)) rfl (Or.inl rfl) ?_
  exact g_inv (k := 1) (m' := 150) (np := 0) (as := [(2, ((r2 : Nat) : Int))]) (by decide +kernel : decode (m_byt 282) 2106 = .ok (.invokevirtual 125, 3)) (Or.inl ⟨rfl, rfl⟩) (by decide +kernel) (by decide +kernel) (by decide +kernel) (Nat.le_of_ble_eq_true rfl) rfl (Or.inr (g_rcv (by decide +kernel) h0))
theorem b_282_2109 {Z : mZ} {l0 l1 l2 l3 l4 l6 : mV} {s0 x5 : Int} {h : mH} : m_run Z (282, 2109, [l0, l1, l2, l3, l4, (0, x5), l6], [(0, s0)], h) = if w32 s0 = w32 x5 then m_run Z (282, 2116, [l0, l1, l2, l3, l4, (0, x5), l6], [], h) else m_run Z (282, 2114, [l0, l1, l2, l3, l4, (0, x5), l6], [], h) := by
  refine g_iload (k := 5) (x := x5) (by decide +kernel : decode (m_byt 282) 2109 = .ok (.iload 5, 2)) rfl ?_
  exact g_brq (t := 2116) (off := 5) (by decide +kernel : decode (m_byt 282) 2111 = .ok (.if_icmp .eq 5, 3)) rfl rfl (by decide)
theorem b_282_2114 {Z : mZ} {l0 l1 l2 l3 l4 l5 l6 : mV} {h : mH} : m_run Z (282, 2114, [l0, l1, l2, l3, l4, l5, l6], [], h) = some (.inl (0, 0), h) := by
  refine g_base (by decide +kernel : decode (m_byt 282) 2114 = .ok (.iconst 0, 1)) rfl rfl ?_
  show m_run Z (282, 2115, [l0, l1, l2, l3, l4, l5, l6], [(0, 0)], h) = _
  exact g_zret (by decide +kernel : decode (m_byt 282) 2115 = .ok (.ireturn, 1)) (by decide +kernel) (by decide)
theorem b_282_2116 {Z : mZ} {l0 l1 l2 l3 l4 l6 : mV} {x5 : Int} {h : mH} : m_run Z (282, 2116, [l0, l1, l2, l3, l4, (0, x5), l6], [], h) = if w32 x5 = 0 then m_run Z (282, 2121, [l0, l1, l2, l3, l4, (0, x5), l6], [], h) else m_run Z (282, 2133, [l0, l1, l2, l3, l4, (0, x5), l6], [], h) := by
  refine g_iload (k := 5) (x := x5) (by decide +kernel : decode (m_byt 282) 2116 = .ok (.iload 5, 2)) rfl ?_
  exact g_brn (t := 2133) (off := 15) (by decide +kernel : decode (m_byt 282) 2118 = .ok (.ifCond .ne 15, 3)) rfl rfl (by decide)
theorem b_282_2121 {Z : mZ} {l0 l1 l2 l4 l5 : mV} {x6 : Int} {r3 : Nat} {K : Nat → mK} {σ : Nat → Nat → Int} {n e s : Nat} (h0 : 0 ≤ w32 0) (h1 : w32 0 < (q_ln K r3 : Int)) (h2 : q_ak K n r3 3) : m_run Z (282, 2121, [l0, l1, l2, (2, ((r3 : Nat) : Int)), l4, l5, (0, x6)], [], (K, σ, n, e, s)) = if w32 (l_cmp (σ r3 (w32 0).toNat) (w32 x6)) = 0 then m_run Z (282, 2133, [l0, l1, l2, (2, ((r3 : Nat) : Int)), l4, l5, (0, x6)], [], (K, σ, n, e, s)) else m_run Z (282, 2131, [l0, l1, l2, (2, ((r3 : Nat) : Int)), l4, l5, (0, x6)], [], (K, σ, n, e, s)) := by
  refine g_aload_n (k := 3) (v := (2, ((r3 : Nat) : Int))) (by decide +kernel : decode (m_byt 282) 2121 = .ok (.aload_n 3, 1)) rfl (Or.inl rfl) ?_
  refine g_base (by decide +kernel : decode (m_byt 282) 2122 = .ok (.iconst 0, 1)) rfl rfl ?_
  show m_run Z (282, 2123, [l0, l1, l2, (2, ((r3 : Nat) : Int)), l4, l5, (0, x6)], [(0, 0), (2, ((r3 : Nat) : Int))], (K, σ, n, e, s)) = _
  refine g_lald (by decide +kernel : decode (m_byt 282) 2123 = .ok (.laload, 1)) h2 h0 h1 ?_
  refine g_iload (k := 6) (x := x6) (by decide +kernel : decode (m_byt 282) 2124 = .ok (.iload 6, 2)) rfl ?_
  refine g_base (by decide +kernel : decode (m_byt 282) 2126 = .ok (.i2l, 1)) rfl rfl ?_
  show m_run Z (282, 2127, [l0, l1, l2, (2, ((r3 : Nat) : Int)), l4, l5, (0, x6)], [(1, (w32 x6)), (1, (σ r3 (w32 0).toNat))], (K, σ, n, e, s)) = _
  refine g_base (by decide +kernel : decode (m_byt 282) 2127 = .ok (.lcmp, 1)) rfl rfl ?_
  show m_run Z (282, 2128, [l0, l1, l2, (2, ((r3 : Nat) : Int)), l4, l5, (0, x6)], [(0, (l_cmp (σ r3 (w32 0).toNat) (w32 x6)))], (K, σ, n, e, s)) = _
  exact g_brq (t := 2133) (off := 5) (by decide +kernel : decode (m_byt 282) 2128 = .ok (.ifCond .eq 5, 3)) rfl rfl (by decide)
theorem b_282_2131 {Z : mZ} {l0 l1 l2 l3 l4 l5 l6 : mV} {h : mH} : m_run Z (282, 2131, [l0, l1, l2, l3, l4, l5, l6], [], h) = some (.inl (0, 0), h) := by
  refine g_base (by decide +kernel : decode (m_byt 282) 2131 = .ok (.iconst 0, 1)) rfl rfl ?_
  show m_run Z (282, 2132, [l0, l1, l2, l3, l4, l5, l6], [(0, 0)], h) = _
  exact g_zret (by decide +kernel : decode (m_byt 282) 2132 = .ok (.ireturn, 1)) (by decide +kernel) (by decide)
theorem b_282_2133 {Z : mZ} {l0 l1 l2 l5 l6 : mV} {x4 : Int} {r3 : Nat} {h : mH} : m_run Z (282, 2133, [l0, l1, l2, (2, ((r3 : Nat) : Int)), (0, x4), l5, l6], [], h) = m_run Z (282, 23, [l0, l1, l2, (2, ((r3 : Nat) : Int)), (0, x4 + 6), l5, l6], [], h) := by
  refine g_jmp (t := 2388) (by decide +kernel : decode (m_byt 282) 2133 = .ok (.goto 255, 3)) (by decide) ?_
  refine g_iinc (k := 4) (x := x4) (by decide +kernel : decode (m_byt 282) 2388 = .ok (.iinc 4 6, 3)) rfl (Nat.le_of_ble_eq_true rfl) ?_
  show m_run Z (282, 2391, [l0, l1, l2, (2, ((r3 : Nat) : Int)), (0, x4 + 6), l5, l6], [], h) = _
  refine g_jmp (t := 23) (by decide +kernel : decode (m_byt 282) 2391 = .ok (.goto (-2368), 3)) (by decide) ?_
  rfl
theorem b_282_2136 {Z : mZ} {l2 l5 l6 : mV} {x0 x4 : Int} {r1 r3 : Nat} {h : mH} (h0 : 0 ≤ w32 (x4 + 1)) (h1 : w32 (x4 + 1) < (Z.1 : Int)) (h2 : 0 ≤ w32 (x4 + 2)) (h3 : w32 (x4 + 2) < (Z.1 : Int)) : m_run Z (282, 2136, [(4, x0), (2, ((r1 : Nat) : Int)), l2, (2, ((r3 : Nat) : Int)), (0, x4), l5, l6], [], h) = (m_cl Z 278 [(2, ((r1 : Nat) : Int)), (0, (Z.2 (w32 (x4 + 1)).toNat).toInt), (0, (Z.2 (w32 (x4 + 2)).toNat).toInt), (2, ((r3 : Nat) : Int))] h).bind (m_aft (m_run Z) 282 2150 [(4, x0), (2, ((r1 : Nat) : Int)), l2, (2, ((r3 : Nat) : Int)), (0, x4), l5, l6] []) := by
  refine g_aload_n (k := 1) (v := (2, ((r1 : Nat) : Int))) (by decide +kernel : decode (m_byt 282) 2136 = .ok (.aload_n 1, 1)) rfl (Or.inl rfl) ?_
  refine g_aload_n (k := 0) (v := (4, x0)) (by decide +kernel : decode (m_byt 282) 2137 = .ok (.aload_n 0, 1)) rfl (Or.inr (Or.inr rfl)) ?_
  refine g_iload (k := 4) (x := x4) (by decide +kernel : decode (m_byt 282) 2138 = .ok (.iload 4, 2)) rfl ?_
  refine g_base (by decide +kernel : decode (m_byt 282) 2140 = .ok (.iconst 1, 1)) rfl rfl ?_
  show m_run Z (282, 2141, [(4, x0), (2, ((r1 : Nat) : Int)), l2, (2, ((r3 : Nat) : Int)), (0, x4), l5, l6], [(0, 1), (0, x4), (4, x0), (2, ((r1 : Nat) : Int))], h) = _
  refine g_base (by decide +kernel : decode (m_byt 282) 2141 = .ok (.iadd, 1)) rfl rfl ?_
  show m_run Z (282, 2142, [(4, x0), (2, ((r1 : Nat) : Int)), l2, (2, ((r3 : Nat) : Int)), (0, x4), l5, l6], [(0, (x4 + 1)), (4, x0), (2, ((r1 : Nat) : Int))], h) = _
  refine g_sald (by decide +kernel : decode (m_byt 282) 2142 = .ok (.iaload, 1)) h0 h1 ?_
  refine g_aload_n (k := 0) (v := (4, x0)) (by decide +kernel : decode (m_byt 282) 2143 = .ok (.aload_n 0, 1)) rfl (Or.inr (Or.inr rfl)) ?_
  refine g_iload (k := 4) (x := x4) (by decide +kernel : decode (m_byt 282) 2144 = .ok (.iload 4, 2)) rfl ?_
  refine g_base (by decide +kernel : decode (m_byt 282) 2146 = .ok (.iconst 2, 1)) rfl rfl ?_
  show m_run Z (282, 2147, [(4, x0), (2, ((r1 : Nat) : Int)), l2, (2, ((r3 : Nat) : Int)), (0, x4), l5, l6], [(0, 2), (0, x4), (4, x0), (0, (Z.2 (w32 (x4 + 1)).toNat).toInt), (2, ((r1 : Nat) : Int))], h) = _
  refine g_base (by decide +kernel : decode (m_byt 282) 2147 = .ok (.iadd, 1)) rfl rfl ?_
  show m_run Z (282, 2148, [(4, x0), (2, ((r1 : Nat) : Int)), l2, (2, ((r3 : Nat) : Int)), (0, x4), l5, l6], [(0, (x4 + 2)), (4, x0), (0, (Z.2 (w32 (x4 + 1)).toNat).toInt), (2, ((r1 : Nat) : Int))], h) = _
  refine g_sald (by decide +kernel : decode (m_byt 282) 2148 = .ok (.iaload, 1)) h2 h3 ?_
  refine g_aload_n (k := 3) (v := (2, ((r3 : Nat) : Int))) (by decide +kernel : decode (m_byt 282) 2149 = .ok (.aload_n 3, 1)) rfl (Or.inl rfl) ?_
  exact g_inv (k := 0) (m' := 278) (np := 4) (as := [(2, ((r1 : Nat) : Int)), (0, (Z.2 (w32 (x4 + 1)).toNat).toInt), (0, (Z.2 (w32 (x4 + 2)).toNat).toInt), (2, ((r3 : Nat) : Int))]) (by decide +kernel : decode (m_byt 282) 2150 = .ok (.invokestatic 214, 3)) (Or.inr (Or.inr ⟨rfl, rfl, by decide, by decide⟩)) (by decide +kernel) (by decide +kernel) (by decide +kernel) (Nat.le_of_ble_eq_true rfl) rfl (Or.inl rfl)
theorem b_282_2153 {Z : mZ} {l1 l3 l5 l6 : mV} {s0 x4 x0 : Int} {r2 : Nat} {K : Nat → mK} {σ : Nat → Nat → Int} {n e s : Nat} (h0 : 0 ≤ w32 (x4 + 1)) (h1 : w32 (x4 + 1) < (Z.1 : Int)) (h2 : 0 ≤ w32 (x4 + 2)) (h3 : w32 (x4 + 2) < (Z.1 : Int)) (h4 : q_ob K n r2 7) : m_run Z (282, 2153, [(4, x0), l1, (2, ((r2 : Nat) : Int)), l3, (0, x4), l5, l6], [(0, s0)], (K, σ, n, e, s)) = (m_cl Z 236 [(2, ((r2 : Nat) : Int)), (0, (Z.2 (w32 (x4 + 1)).toNat).toInt), (0, (Z.2 (w32 (x4 + 2)).toNat).toInt)] (K, σ, n, e, s)).bind (m_aft (m_run Z) 282 2168 [(4, x0), l1, (2, ((r2 : Nat) : Int)), l3, (0, x4), (0, s0), l6] []) := by
  refine g_istore (k := 5) (by decide +kernel : decode (m_byt 282) 2153 = .ok (.istore 5, 2)) (Nat.le_of_ble_eq_true rfl) ?_
  show m_run Z (282, 2155, [(4, x0), l1, (2, ((r2 : Nat) : Int)), l3, (0, x4), (0, s0), l6], [], (K, σ, n, e, s)) = _
  refine g_aload_n (k := 2) (v := (2, ((r2 : Nat) : Int))) (by decide +kernel : decode (m_byt 282) 2155 = .ok (.aload_n 2, 1)) rfl (Or.inl rfl) ?_
  refine g_aload_n (k := 0) (v := (4, x0)) (by decide +kernel : decode (m_byt 282) 2156 = .ok (.aload_n 0, 1)) rfl (Or.inr (Or.inr rfl)) ?_
  refine g_iload (k := 4) (x := x4) (by decide +kernel : decode (m_byt 282) 2157 = .ok (.iload 4, 2)) rfl ?_
  refine g_base (by decide +kernel : decode (m_byt 282) 2159 = .ok (.iconst 1, 1)) rfl rfl ?_
  show m_run Z (282, 2160, [(4, x0), l1, (2, ((r2 : Nat) : Int)), l3, (0, x4), (0, s0), l6], [(0, 1), (0, x4), (4, x0), (2, ((r2 : Nat) : Int))], (K, σ, n, e, s)) = _
  refine g_base (by decide +kernel : decode (m_byt 282) 2160 = .ok (.iadd, 1)) rfl rfl ?_
  show m_run Z (282, 2161, [(4, x0), l1, (2, ((r2 : Nat) : Int)), l3, (0, x4), (0, s0), l6], [(0, (x4 + 1)), (4, x0), (2, ((r2 : Nat) : Int))], (K, σ, n, e, s)) = _
  refine g_sald (by decide +kernel : decode (m_byt 282) 2161 = .ok (.iaload, 1)) h0 h1 ?_
  refine g_aload_n (k := 0) (v := (4, x0)) (by decide +kernel : decode (m_byt 282) 2162 = .ok (.aload_n 0, 1)) rfl (Or.inr (Or.inr rfl)) ?_
  refine g_iload (k := 4) (x := x4) (by decide +kernel : decode (m_byt 282) 2163 = .ok (.iload 4, 2)) rfl ?_
  refine g_base (by decide +kernel : decode (m_byt 282) 2165 = .ok (.iconst 2, 1)) rfl rfl ?_
  show m_run Z (282, 2166, [(4, x0), l1, (2, ((r2 : Nat) : Int)), l3, (0, x4), (0, s0), l6], [(0, 2), (0, x4), (4, x0), (0, (Z.2 (w32 (x4 + 1)).toNat).toInt), (2, ((r2 : Nat) : Int))], (K, σ, n, e, s)) = _
  refine g_base (by decide +kernel : decode (m_byt 282) 2166 = .ok (.iadd, 1)) rfl rfl ?_
  show m_run Z (282, 2167, [(4, x0), l1, (2, ((r2 : Nat) : Int)), l3, (0, x4), (0, s0), l6], [(0, (x4 + 2)), (4, x0), (0, (Z.2 (w32 (x4 + 1)).toNat).toInt), (2, ((r2 : Nat) : Int))], (K, σ, n, e, s)) = _
  refine g_sald (by decide +kernel : decode (m_byt 282) 2167 = .ok (.iaload, 1)) h2 h3 ?_
  exact g_inv (k := 1) (m' := 236) (np := 2) (as := [(2, ((r2 : Nat) : Int)), (0, (Z.2 (w32 (x4 + 1)).toNat).toInt), (0, (Z.2 (w32 (x4 + 2)).toNat).toInt)]) (by decide +kernel : decode (m_byt 282) 2168 = .ok (.invokevirtual 216, 3)) (Or.inl ⟨rfl, rfl⟩) (by decide +kernel) (by decide +kernel) (by decide +kernel) (Nat.le_of_ble_eq_true rfl) rfl (Or.inr (g_rcv (by decide +kernel) h4))
theorem b_282_2171 {Z : mZ} {l0 l1 l3 l4 l6 : mV} {s0 x5 : Int} {r2 : Nat} {K : Nat → mK} {σ : Nat → Nat → Int} {n e s : Nat} (h0 : q_ob K n r2 7) : m_run Z (282, 2171, [l0, l1, (2, ((r2 : Nat) : Int)), l3, l4, (0, x5), l6], [(0, s0)], (K, σ, n, e, s)) = (m_cl Z 150 [(2, ((r2 : Nat) : Int))] (K, σ, n, e, s)).bind (m_aft (m_run Z) 282 2174 [l0, l1, (2, ((r2 : Nat) : Int)), l3, l4, (0, x5), (0, s0)] []) := by
  refine g_istore (k := 6) (by decide +kernel : decode (m_byt 282) 2171 = .ok (.istore 6, 2)) (Nat.le_of_ble_eq_true rfl) ?_
  show m_run Z (282, 2173, [l0, l1, (2, ((r2 : Nat) : Int)), l3, l4, (0, x5), (0, s0)], [], (K, σ, n, e, s)) = _
  refine g_aload_n (k := 2) (v := (2, ((r2 : Nat) : Int))) (by decide +kernel : decode (m_byt 282) 2173 = .ok (.aload_n 2, 1)) rfl (Or.inl rfl) ?_
  exact g_inv (k := 1) (m' := 150) (np := 0) (as := [(2, ((r2 : Nat) : Int))]) (by decide +kernel : decode (m_byt 282) 2174 = .ok (.invokevirtual 125, 3)) (Or.inl ⟨rfl, rfl⟩) (by decide +kernel) (by decide +kernel) (by decide +kernel) (Nat.le_of_ble_eq_true rfl) rfl (Or.inr (g_rcv (by decide +kernel) h0))
theorem b_282_2177 {Z : mZ} {l0 l1 l2 l3 l4 l6 : mV} {s0 x5 : Int} {h : mH} : m_run Z (282, 2177, [l0, l1, l2, l3, l4, (0, x5), l6], [(0, s0)], h) = if w32 s0 = w32 x5 then m_run Z (282, 2184, [l0, l1, l2, l3, l4, (0, x5), l6], [], h) else m_run Z (282, 2182, [l0, l1, l2, l3, l4, (0, x5), l6], [], h) := by
  refine g_iload (k := 5) (x := x5) (by decide +kernel : decode (m_byt 282) 2177 = .ok (.iload 5, 2)) rfl ?_
  exact g_brq (t := 2184) (off := 5) (by decide +kernel : decode (m_byt 282) 2179 = .ok (.if_icmp .eq 5, 3)) rfl rfl (by decide)
theorem b_282_2182 {Z : mZ} {l0 l1 l2 l3 l4 l5 l6 : mV} {h : mH} : m_run Z (282, 2182, [l0, l1, l2, l3, l4, l5, l6], [], h) = some (.inl (0, 0), h) := by
  refine g_base (by decide +kernel : decode (m_byt 282) 2182 = .ok (.iconst 0, 1)) rfl rfl ?_
  show m_run Z (282, 2183, [l0, l1, l2, l3, l4, l5, l6], [(0, 0)], h) = _
  exact g_zret (by decide +kernel : decode (m_byt 282) 2183 = .ok (.ireturn, 1)) (by decide +kernel) (by decide)
theorem b_282_2184 {Z : mZ} {l0 l1 l2 l3 l4 l6 : mV} {x5 : Int} {h : mH} : m_run Z (282, 2184, [l0, l1, l2, l3, l4, (0, x5), l6], [], h) = if w32 x5 = 0 then m_run Z (282, 2189, [l0, l1, l2, l3, l4, (0, x5), l6], [], h) else m_run Z (282, 2201, [l0, l1, l2, l3, l4, (0, x5), l6], [], h) := by
  refine g_iload (k := 5) (x := x5) (by decide +kernel : decode (m_byt 282) 2184 = .ok (.iload 5, 2)) rfl ?_
  exact g_brn (t := 2201) (off := 15) (by decide +kernel : decode (m_byt 282) 2186 = .ok (.ifCond .ne 15, 3)) rfl rfl (by decide)
theorem b_282_2189 {Z : mZ} {l0 l1 l2 l4 l5 : mV} {x6 : Int} {r3 : Nat} {K : Nat → mK} {σ : Nat → Nat → Int} {n e s : Nat} (h0 : 0 ≤ w32 0) (h1 : w32 0 < (q_ln K r3 : Int)) (h2 : q_ak K n r3 3) : m_run Z (282, 2189, [l0, l1, l2, (2, ((r3 : Nat) : Int)), l4, l5, (0, x6)], [], (K, σ, n, e, s)) = if w32 (l_cmp (σ r3 (w32 0).toNat) (w32 x6)) = 0 then m_run Z (282, 2201, [l0, l1, l2, (2, ((r3 : Nat) : Int)), l4, l5, (0, x6)], [], (K, σ, n, e, s)) else m_run Z (282, 2199, [l0, l1, l2, (2, ((r3 : Nat) : Int)), l4, l5, (0, x6)], [], (K, σ, n, e, s)) := by
  refine g_aload_n (k := 3) (v := (2, ((r3 : Nat) : Int))) (by decide +kernel : decode (m_byt 282) 2189 = .ok (.aload_n 3, 1)) rfl (Or.inl rfl) ?_
  refine g_base (by decide +kernel : decode (m_byt 282) 2190 = .ok (.iconst 0, 1)) rfl rfl ?_
  show m_run Z (282, 2191, [l0, l1, l2, (2, ((r3 : Nat) : Int)), l4, l5, (0, x6)], [(0, 0), (2, ((r3 : Nat) : Int))], (K, σ, n, e, s)) = _
  refine g_lald (by decide +kernel : decode (m_byt 282) 2191 = .ok (.laload, 1)) h2 h0 h1 ?_
  refine g_iload (k := 6) (x := x6) (by decide +kernel : decode (m_byt 282) 2192 = .ok (.iload 6, 2)) rfl ?_
  refine g_base (by decide +kernel : decode (m_byt 282) 2194 = .ok (.i2l, 1)) rfl rfl ?_
  show m_run Z (282, 2195, [l0, l1, l2, (2, ((r3 : Nat) : Int)), l4, l5, (0, x6)], [(1, (w32 x6)), (1, (σ r3 (w32 0).toNat))], (K, σ, n, e, s)) = _
  refine g_base (by decide +kernel : decode (m_byt 282) 2195 = .ok (.lcmp, 1)) rfl rfl ?_
  show m_run Z (282, 2196, [l0, l1, l2, (2, ((r3 : Nat) : Int)), l4, l5, (0, x6)], [(0, (l_cmp (σ r3 (w32 0).toNat) (w32 x6)))], (K, σ, n, e, s)) = _
  exact g_brq (t := 2201) (off := 5) (by decide +kernel : decode (m_byt 282) 2196 = .ok (.ifCond .eq 5, 3)) rfl rfl (by decide)
theorem b_282_2199 {Z : mZ} {l0 l1 l2 l3 l4 l5 l6 : mV} {h : mH} : m_run Z (282, 2199, [l0, l1, l2, l3, l4, l5, l6], [], h) = some (.inl (0, 0), h) := by
  refine g_base (by decide +kernel : decode (m_byt 282) 2199 = .ok (.iconst 0, 1)) rfl rfl ?_
  show m_run Z (282, 2200, [l0, l1, l2, l3, l4, l5, l6], [(0, 0)], h) = _
  exact g_zret (by decide +kernel : decode (m_byt 282) 2200 = .ok (.ireturn, 1)) (by decide +kernel) (by decide)
theorem b_282_2201 {Z : mZ} {l0 l1 l2 l5 l6 : mV} {x4 : Int} {r3 : Nat} {h : mH} : m_run Z (282, 2201, [l0, l1, l2, (2, ((r3 : Nat) : Int)), (0, x4), l5, l6], [], h) = m_run Z (282, 23, [l0, l1, l2, (2, ((r3 : Nat) : Int)), (0, x4 + 6), l5, l6], [], h) := by
  refine g_jmp (t := 2388) (by decide +kernel : decode (m_byt 282) 2201 = .ok (.goto 187, 3)) (by decide) ?_
  refine g_iinc (k := 4) (x := x4) (by decide +kernel : decode (m_byt 282) 2388 = .ok (.iinc 4 6, 3)) rfl (Nat.le_of_ble_eq_true rfl) ?_
  show m_run Z (282, 2391, [l0, l1, l2, (2, ((r3 : Nat) : Int)), (0, x4 + 6), l5, l6], [], h) = _
  refine g_jmp (t := 23) (by decide +kernel : decode (m_byt 282) 2391 = .ok (.goto (-2368), 3)) (by decide) ?_
  rfl
theorem b_282_2204 {Z : mZ} {l2 l5 l6 : mV} {x0 x4 : Int} {r1 r3 : Nat} {h : mH} (h0 : 0 ≤ w32 (x4 + 1)) (h1 : w32 (x4 + 1) < (Z.1 : Int)) : m_run Z (282, 2204, [(4, x0), (2, ((r1 : Nat) : Int)), l2, (2, ((r3 : Nat) : Int)), (0, x4), l5, l6], [], h) = (m_cl Z 279 [(2, ((r1 : Nat) : Int)), (0, (Z.2 (w32 (x4 + 1)).toNat).toInt), (2, ((r3 : Nat) : Int))] h).bind (m_aft (m_run Z) 282 2212 [(4, x0), (2, ((r1 : Nat) : Int)), l2, (2, ((r3 : Nat) : Int)), (0, x4), l5, l6] []) := by
  refine g_aload_n (k := 1) (v := (2, ((r1 : Nat) : Int))) (by decide +kernel : decode (m_byt 282) 2204 = .ok (.aload_n 1, 1)) rfl (Or.inl rfl) ?_
  refine g_aload_n (k := 0) (v := (4, x0)) (by decide +kernel : decode (m_byt 282) 2205 = .ok (.aload_n 0, 1)) rfl (Or.inr (Or.inr rfl)) ?_
  refine g_iload (k := 4) (x := x4) (by decide +kernel : decode (m_byt 282) 2206 = .ok (.iload 4, 2)) rfl ?_
  refine g_base (by decide +kernel : decode (m_byt 282) 2208 = .ok (.iconst 1, 1)) rfl rfl ?_
  show m_run Z (282, 2209, [(4, x0), (2, ((r1 : Nat) : Int)), l2, (2, ((r3 : Nat) : Int)), (0, x4), l5, l6], [(0, 1), (0, x4), (4, x0), (2, ((r1 : Nat) : Int))], h) = _
  refine g_base (by decide +kernel : decode (m_byt 282) 2209 = .ok (.iadd, 1)) rfl rfl ?_
  show m_run Z (282, 2210, [(4, x0), (2, ((r1 : Nat) : Int)), l2, (2, ((r3 : Nat) : Int)), (0, x4), l5, l6], [(0, (x4 + 1)), (4, x0), (2, ((r1 : Nat) : Int))], h) = _
  refine g_sald (by decide +kernel : decode (m_byt 282) 2210 = .ok (.iaload, 1)) h0 h1 ?_
  refine g_aload_n (k := 3) (v := (2, ((r3 : Nat) : Int))) (by decide +kernel : decode (m_byt 282) 2211 = .ok (.aload_n 3, 1)) rfl (Or.inl rfl) ?_
  exact g_inv (k := 0) (m' := 279) (np := 3) (as := [(2, ((r1 : Nat) : Int)), (0, (Z.2 (w32 (x4 + 1)).toNat).toInt), (2, ((r3 : Nat) : Int))]) (by decide +kernel : decode (m_byt 282) 2212 = .ok (.invokestatic 217, 3)) (Or.inr (Or.inr ⟨rfl, rfl, by decide, by decide⟩)) (by decide +kernel) (by decide +kernel) (by decide +kernel) (Nat.le_of_ble_eq_true rfl) rfl (Or.inl rfl)
theorem b_282_2215 {Z : mZ} {l1 l3 l5 l6 : mV} {s0 x4 x0 : Int} {r2 : Nat} {K : Nat → mK} {σ : Nat → Nat → Int} {n e s : Nat} (h0 : 0 ≤ w32 (x4 + 1)) (h1 : w32 (x4 + 1) < (Z.1 : Int)) (h2 : q_ob K n r2 7) : m_run Z (282, 2215, [(4, x0), l1, (2, ((r2 : Nat) : Int)), l3, (0, x4), l5, l6], [(0, s0)], (K, σ, n, e, s)) = (m_cl Z 237 [(2, ((r2 : Nat) : Int)), (0, (Z.2 (w32 (x4 + 1)).toNat).toInt)] (K, σ, n, e, s)).bind (m_aft (m_run Z) 282 2224 [(4, x0), l1, (2, ((r2 : Nat) : Int)), l3, (0, x4), (0, s0), l6] []) := by
  refine g_istore (k := 5) (by decide +kernel : decode (m_byt 282) 2215 = .ok (.istore 5, 2)) (Nat.le_of_ble_eq_true rfl) ?_
  show m_run Z (282, 2217, [(4, x0), l1, (2, ((r2 : Nat) : Int)), l3, (0, x4), (0, s0), l6], [], (K, σ, n, e, s)) = _
  refine g_aload_n (k := 2) (v := (2, ((r2 : Nat) : Int))) (by decide +kernel : decode (m_byt 282) 2217 = .ok (.aload_n 2, 1)) rfl (Or.inl rfl) ?_
  refine g_aload_n (k := 0) (v := (4, x0)) (by decide +kernel : decode (m_byt 282) 2218 = .ok (.aload_n 0, 1)) rfl (Or.inr (Or.inr rfl)) ?_
  refine g_iload (k := 4) (x := x4) (by decide +kernel : decode (m_byt 282) 2219 = .ok (.iload 4, 2)) rfl ?_
  refine g_base (by decide +kernel : decode (m_byt 282) 2221 = .ok (.iconst 1, 1)) rfl rfl ?_
  show m_run Z (282, 2222, [(4, x0), l1, (2, ((r2 : Nat) : Int)), l3, (0, x4), (0, s0), l6], [(0, 1), (0, x4), (4, x0), (2, ((r2 : Nat) : Int))], (K, σ, n, e, s)) = _
  refine g_base (by decide +kernel : decode (m_byt 282) 2222 = .ok (.iadd, 1)) rfl rfl ?_
  show m_run Z (282, 2223, [(4, x0), l1, (2, ((r2 : Nat) : Int)), l3, (0, x4), (0, s0), l6], [(0, (x4 + 1)), (4, x0), (2, ((r2 : Nat) : Int))], (K, σ, n, e, s)) = _
  refine g_sald (by decide +kernel : decode (m_byt 282) 2223 = .ok (.iaload, 1)) h0 h1 ?_
  exact g_inv (k := 1) (m' := 237) (np := 1) (as := [(2, ((r2 : Nat) : Int)), (0, (Z.2 (w32 (x4 + 1)).toNat).toInt)]) (by decide +kernel : decode (m_byt 282) 2224 = .ok (.invokevirtual 219, 3)) (Or.inl ⟨rfl, rfl⟩) (by decide +kernel) (by decide +kernel) (by decide +kernel) (Nat.le_of_ble_eq_true rfl) rfl (Or.inr (g_rcv (by decide +kernel) h2))
theorem b_282_2227 {Z : mZ} {l0 l1 l3 l4 l6 : mV} {s0 x5 : Int} {r2 : Nat} {K : Nat → mK} {σ : Nat → Nat → Int} {n e s : Nat} (h0 : q_ob K n r2 7) : m_run Z (282, 2227, [l0, l1, (2, ((r2 : Nat) : Int)), l3, l4, (0, x5), l6], [(0, s0)], (K, σ, n, e, s)) = (m_cl Z 150 [(2, ((r2 : Nat) : Int))] (K, σ, n, e, s)).bind (m_aft (m_run Z) 282 2230 [l0, l1, (2, ((r2 : Nat) : Int)), l3, l4, (0, x5), (0, s0)] []) := by
  refine g_istore (k := 6) (by decide +kernel : decode (m_byt 282) 2227 = .ok (.istore 6, 2)) (Nat.le_of_ble_eq_true rfl) ?_
  show m_run Z (282, 2229, [l0, l1, (2, ((r2 : Nat) : Int)), l3, l4, (0, x5), (0, s0)], [], (K, σ, n, e, s)) = _
  refine g_aload_n (k := 2) (v := (2, ((r2 : Nat) : Int))) (by decide +kernel : decode (m_byt 282) 2229 = .ok (.aload_n 2, 1)) rfl (Or.inl rfl) ?_
  exact g_inv (k := 1) (m' := 150) (np := 0) (as := [(2, ((r2 : Nat) : Int))]) (by decide +kernel : decode (m_byt 282) 2230 = .ok (.invokevirtual 125, 3)) (Or.inl ⟨rfl, rfl⟩) (by decide +kernel) (by decide +kernel) (by decide +kernel) (Nat.le_of_ble_eq_true rfl) rfl (Or.inr (g_rcv (by decide +kernel) h0))
theorem b_282_2233 {Z : mZ} {l0 l1 l2 l3 l4 l6 : mV} {s0 x5 : Int} {h : mH} : m_run Z (282, 2233, [l0, l1, l2, l3, l4, (0, x5), l6], [(0, s0)], h) = if w32 s0 = w32 x5 then m_run Z (282, 2240, [l0, l1, l2, l3, l4, (0, x5), l6], [], h) else m_run Z (282, 2238, [l0, l1, l2, l3, l4, (0, x5), l6], [], h) := by
  refine g_iload (k := 5) (x := x5) (by decide +kernel : decode (m_byt 282) 2233 = .ok (.iload 5, 2)) rfl ?_
  exact g_brq (t := 2240) (off := 5) (by decide +kernel : decode (m_byt 282) 2235 = .ok (.if_icmp .eq 5, 3)) rfl rfl (by decide)
theorem b_282_2238 {Z : mZ} {l0 l1 l2 l3 l4 l5 l6 : mV} {h : mH} : m_run Z (282, 2238, [l0, l1, l2, l3, l4, l5, l6], [], h) = some (.inl (0, 0), h) := by
  refine g_base (by decide +kernel : decode (m_byt 282) 2238 = .ok (.iconst 0, 1)) rfl rfl ?_
  show m_run Z (282, 2239, [l0, l1, l2, l3, l4, l5, l6], [(0, 0)], h) = _
  exact g_zret (by decide +kernel : decode (m_byt 282) 2239 = .ok (.ireturn, 1)) (by decide +kernel) (by decide)
theorem b_282_2240 {Z : mZ} {l0 l1 l2 l3 l4 l6 : mV} {x5 : Int} {h : mH} : m_run Z (282, 2240, [l0, l1, l2, l3, l4, (0, x5), l6], [], h) = if w32 x5 = 0 then m_run Z (282, 2245, [l0, l1, l2, l3, l4, (0, x5), l6], [], h) else m_run Z (282, 2257, [l0, l1, l2, l3, l4, (0, x5), l6], [], h) := by
  refine g_iload (k := 5) (x := x5) (by decide +kernel : decode (m_byt 282) 2240 = .ok (.iload 5, 2)) rfl ?_
  exact g_brn (t := 2257) (off := 15) (by decide +kernel : decode (m_byt 282) 2242 = .ok (.ifCond .ne 15, 3)) rfl rfl (by decide)
theorem b_282_2245 {Z : mZ} {l0 l1 l2 l4 l5 : mV} {x6 : Int} {r3 : Nat} {K : Nat → mK} {σ : Nat → Nat → Int} {n e s : Nat} (h0 : 0 ≤ w32 0) (h1 : w32 0 < (q_ln K r3 : Int)) (h2 : q_ak K n r3 3) : m_run Z (282, 2245, [l0, l1, l2, (2, ((r3 : Nat) : Int)), l4, l5, (0, x6)], [], (K, σ, n, e, s)) = if w32 (l_cmp (σ r3 (w32 0).toNat) (w32 x6)) = 0 then m_run Z (282, 2257, [l0, l1, l2, (2, ((r3 : Nat) : Int)), l4, l5, (0, x6)], [], (K, σ, n, e, s)) else m_run Z (282, 2255, [l0, l1, l2, (2, ((r3 : Nat) : Int)), l4, l5, (0, x6)], [], (K, σ, n, e, s)) := by
  refine g_aload_n (k := 3) (v := (2, ((r3 : Nat) : Int))) (by decide +kernel : decode (m_byt 282) 2245 = .ok (.aload_n 3, 1)) rfl (Or.inl rfl) ?_
  refine g_base (by decide +kernel : decode (m_byt 282) 2246 = .ok (.iconst 0, 1)) rfl rfl ?_
  show m_run Z (282, 2247, [l0, l1, l2, (2, ((r3 : Nat) : Int)), l4, l5, (0, x6)], [(0, 0), (2, ((r3 : Nat) : Int))], (K, σ, n, e, s)) = _
  refine g_lald (by decide +kernel : decode (m_byt 282) 2247 = .ok (.laload, 1)) h2 h0 h1 ?_
  refine g_iload (k := 6) (x := x6) (by decide +kernel : decode (m_byt 282) 2248 = .ok (.iload 6, 2)) rfl ?_
  refine g_base (by decide +kernel : decode (m_byt 282) 2250 = .ok (.i2l, 1)) rfl rfl ?_
  show m_run Z (282, 2251, [l0, l1, l2, (2, ((r3 : Nat) : Int)), l4, l5, (0, x6)], [(1, (w32 x6)), (1, (σ r3 (w32 0).toNat))], (K, σ, n, e, s)) = _
  refine g_base (by decide +kernel : decode (m_byt 282) 2251 = .ok (.lcmp, 1)) rfl rfl ?_
  show m_run Z (282, 2252, [l0, l1, l2, (2, ((r3 : Nat) : Int)), l4, l5, (0, x6)], [(0, (l_cmp (σ r3 (w32 0).toNat) (w32 x6)))], (K, σ, n, e, s)) = _
  exact g_brq (t := 2257) (off := 5) (by decide +kernel : decode (m_byt 282) 2252 = .ok (.ifCond .eq 5, 3)) rfl rfl (by decide)
theorem b_282_2255 {Z : mZ} {l0 l1 l2 l3 l4 l5 l6 : mV} {h : mH} : m_run Z (282, 2255, [l0, l1, l2, l3, l4, l5, l6], [], h) = some (.inl (0, 0), h) := by
  refine g_base (by decide +kernel : decode (m_byt 282) 2255 = .ok (.iconst 0, 1)) rfl rfl ?_
  show m_run Z (282, 2256, [l0, l1, l2, l3, l4, l5, l6], [(0, 0)], h) = _
  exact g_zret (by decide +kernel : decode (m_byt 282) 2256 = .ok (.ireturn, 1)) (by decide +kernel) (by decide)
theorem b_282_2257 {Z : mZ} {l0 l1 l2 l5 l6 : mV} {x4 : Int} {r3 : Nat} {h : mH} : m_run Z (282, 2257, [l0, l1, l2, (2, ((r3 : Nat) : Int)), (0, x4), l5, l6], [], h) = m_run Z (282, 23, [l0, l1, l2, (2, ((r3 : Nat) : Int)), (0, x4 + 6), l5, l6], [], h) := by
  refine g_jmp (t := 2388) (by decide +kernel : decode (m_byt 282) 2257 = .ok (.goto 131, 3)) (by decide) ?_
  refine g_iinc (k := 4) (x := x4) (by decide +kernel : decode (m_byt 282) 2388 = .ok (.iinc 4 6, 3)) rfl (Nat.le_of_ble_eq_true rfl) ?_
  show m_run Z (282, 2391, [l0, l1, l2, (2, ((r3 : Nat) : Int)), (0, x4 + 6), l5, l6], [], h) = _
  refine g_jmp (t := 23) (by decide +kernel : decode (m_byt 282) 2391 = .ok (.goto (-2368), 3)) (by decide) ?_
  rfl
theorem b_282_2260 {Z : mZ} {l0 l2 l3 l4 l5 l6 : mV} {r1 : Nat} {K : Nat → mK} {σ : Nat → Nat → Int} {n e s : Nat} (h0 : q_ob K n r1 6) : m_run Z (282, 2260, [l0, (2, ((r1 : Nat) : Int)), l2, l3, l4, l5, l6], [], (K, σ, n, e, s)) = (m_cl Z 125 [(2, ((r1 : Nat) : Int))] (K, σ, n, e, s)).bind (m_aft (m_run Z) 282 2261 [l0, (2, ((r1 : Nat) : Int)), l2, l3, l4, l5, l6] []) := by
  refine g_aload_n (k := 1) (v := (2, ((r1 : Nat) : Int))) (by decide +kernel : decode (m_byt 282) 2260 = .ok (.aload_n 1, 1)) rfl (Or.inl rfl) ?_
  exact g_inv (k := 1) (m' := 125) (np := 0) (as := [(2, ((r1 : Nat) : Int))]) (by decide +kernel : decode (m_byt 282) 2261 = .ok (.invokevirtual 220, 3)) (Or.inl ⟨rfl, rfl⟩) (by decide +kernel) (by decide +kernel) (by decide +kernel) (Nat.le_of_ble_eq_true rfl) rfl (Or.inr (g_rcv (by decide +kernel) h0))
theorem b_282_2264 {Z : mZ} {l0 l1 l3 l4 l5 l6 : mV} {s0 : Int} {r2 : Nat} {K : Nat → mK} {σ : Nat → Nat → Int} {n e s : Nat} (h0 : q_ob K n r2 7) : m_run Z (282, 2264, [l0, l1, (2, ((r2 : Nat) : Int)), l3, l4, l5, l6], [(0, s0)], (K, σ, n, e, s)) = (m_cl Z 238 [(2, ((r2 : Nat) : Int))] (K, σ, n, e, s)).bind (m_aft (m_run Z) 282 2265 [l0, l1, (2, ((r2 : Nat) : Int)), l3, l4, l5, l6] [(0, s0)]) := by
  refine g_aload_n (k := 2) (v := (2, ((r2 : Nat) : Int))) (by decide +kernel : decode (m_byt 282) 2264 = .ok (.aload_n 2, 1)) rfl (Or.inl rfl) ?_
  exact g_inv (k := 1) (m' := 238) (np := 0) (as := [(2, ((r2 : Nat) : Int))]) (by decide +kernel : decode (m_byt 282) 2265 = .ok (.invokevirtual 223, 3)) (Or.inl ⟨rfl, rfl⟩) (by decide +kernel) (by decide +kernel) (by decide +kernel) (Nat.le_of_ble_eq_true rfl) rfl (Or.inr (g_rcv (by decide +kernel) h0))
theorem b_282_2268 {Z : mZ} {l0 l1 l2 l3 l4 l5 l6 : mV} {s0 s1 : Int} {h : mH} : m_run Z (282, 2268, [l0, l1, l2, l3, l4, l5, l6], [(0, s0), (0, s1)], h) = if w32 s1 = w32 s0 then m_run Z (282, 2388, [l0, l1, l2, l3, l4, l5, l6], [], h) else m_run Z (282, 2271, [l0, l1, l2, l3, l4, l5, l6], [], h) := by
  exact g_brq (t := 2388) (off := 120) (by decide +kernel : decode (m_byt 282) 2268 = .ok (.if_icmp .eq 120, 3)) rfl rfl (by decide)
theorem b_282_2271 {Z : mZ} {l0 l1 l2 l3 l4 l5 l6 : mV} {h : mH} : m_run Z (282, 2271, [l0, l1, l2, l3, l4, l5, l6], [], h) = some (.inl (0, 0), h) := by
  refine g_base (by decide +kernel : decode (m_byt 282) 2271 = .ok (.iconst 0, 1)) rfl rfl ?_
  show m_run Z (282, 2272, [l0, l1, l2, l3, l4, l5, l6], [(0, 0)], h) = _
  exact g_zret (by decide +kernel : decode (m_byt 282) 2272 = .ok (.ireturn, 1)) (by decide +kernel) (by decide)
theorem b_282_2273 {Z : mZ} {l0 l2 l3 l4 l5 l6 : mV} {r1 : Nat} {K : Nat → mK} {σ : Nat → Nat → Int} {n e s : Nat} (h0 : q_ob K n r1 6) : m_run Z (282, 2273, [l0, (2, ((r1 : Nat) : Int)), l2, l3, l4, l5, l6], [], (K, σ, n, e, s)) = (m_cl Z 126 [(2, ((r1 : Nat) : Int))] (K, σ, n, e, s)).bind (m_aft (m_run Z) 282 2274 [l0, (2, ((r1 : Nat) : Int)), l2, l3, l4, l5, l6] []) := by
  refine g_aload_n (k := 1) (v := (2, ((r1 : Nat) : Int))) (by decide +kernel : decode (m_byt 282) 2273 = .ok (.aload_n 1, 1)) rfl (Or.inl rfl) ?_
  exact g_inv (k := 1) (m' := 126) (np := 0) (as := [(2, ((r1 : Nat) : Int))]) (by decide +kernel : decode (m_byt 282) 2274 = .ok (.invokevirtual 224, 3)) (Or.inl ⟨rfl, rfl⟩) (by decide +kernel) (by decide +kernel) (by decide +kernel) (Nat.le_of_ble_eq_true rfl) rfl (Or.inr (g_rcv (by decide +kernel) h0))
theorem b_282_2277 {Z : mZ} {l0 l1 l3 l4 l5 l6 : mV} {s0 : Int} {r2 : Nat} {K : Nat → mK} {σ : Nat → Nat → Int} {n e s : Nat} (h0 : q_ob K n r2 7) : m_run Z (282, 2277, [l0, l1, (2, ((r2 : Nat) : Int)), l3, l4, l5, l6], [(0, s0)], (K, σ, n, e, s)) = (m_cl Z 246 [(2, ((r2 : Nat) : Int))] (K, σ, n, e, s)).bind (m_aft (m_run Z) 282 2278 [l0, l1, (2, ((r2 : Nat) : Int)), l3, l4, l5, l6] [(0, s0)]) := by
  refine g_aload_n (k := 2) (v := (2, ((r2 : Nat) : Int))) (by decide +kernel : decode (m_byt 282) 2277 = .ok (.aload_n 2, 1)) rfl (Or.inl rfl) ?_
  exact g_inv (k := 1) (m' := 246) (np := 0) (as := [(2, ((r2 : Nat) : Int))]) (by decide +kernel : decode (m_byt 282) 2278 = .ok (.invokevirtual 227, 3)) (Or.inl ⟨rfl, rfl⟩) (by decide +kernel) (by decide +kernel) (by decide +kernel) (Nat.le_of_ble_eq_true rfl) rfl (Or.inr (g_rcv (by decide +kernel) h0))
theorem b_282_2281 {Z : mZ} {l0 l1 l2 l3 l4 l5 l6 : mV} {s0 s1 : Int} {h : mH} : m_run Z (282, 2281, [l0, l1, l2, l3, l4, l5, l6], [(0, s0), (0, s1)], h) = if w32 s1 = w32 s0 then m_run Z (282, 2388, [l0, l1, l2, l3, l4, l5, l6], [], h) else m_run Z (282, 2284, [l0, l1, l2, l3, l4, l5, l6], [], h) := by
  exact g_brq (t := 2388) (off := 107) (by decide +kernel : decode (m_byt 282) 2281 = .ok (.if_icmp .eq 107, 3)) rfl rfl (by decide)
theorem b_282_2284 {Z : mZ} {l0 l1 l2 l3 l4 l5 l6 : mV} {h : mH} : m_run Z (282, 2284, [l0, l1, l2, l3, l4, l5, l6], [], h) = some (.inl (0, 0), h) := by
  refine g_base (by decide +kernel : decode (m_byt 282) 2284 = .ok (.iconst 0, 1)) rfl rfl ?_
  show m_run Z (282, 2285, [l0, l1, l2, l3, l4, l5, l6], [(0, 0)], h) = _
  exact g_zret (by decide +kernel : decode (m_byt 282) 2285 = .ok (.ireturn, 1)) (by decide +kernel) (by decide)
theorem b_282_2286 {Z : mZ} {l0 l2 l4 l5 l6 : mV} {r1 r3 : Nat} {h : mH} : m_run Z (282, 2286, [l0, (2, ((r1 : Nat) : Int)), l2, (2, ((r3 : Nat) : Int)), l4, l5, l6], [], h) = (m_cl Z 280 [(2, ((r1 : Nat) : Int)), (2, ((r3 : Nat) : Int))] h).bind (m_aft (m_run Z) 282 2288 [l0, (2, ((r1 : Nat) : Int)), l2, (2, ((r3 : Nat) : Int)), l4, l5, l6] []) := by
  refine g_aload_n (k := 1) (v := (2, ((r1 : Nat) : Int))) (by decide +kernel : decode (m_byt 282) 2286 = .ok (.aload_n 1, 1)) rfl (Or.inl rfl) ?_
  refine g_aload_n (k := 3) (v := (2, ((r3 : Nat) : Int))) (by decide +kernel : decode (m_byt 282) 2287 = .ok (.aload_n 3, 1)) rfl (Or.inl rfl) ?_
  exact g_inv (k := 0) (m' := 280) (np := 2) (as := [(2, ((r1 : Nat) : Int)), (2, ((r3 : Nat) : Int))]) (by decide +kernel : decode (m_byt 282) 2288 = .ok (.invokestatic 228, 3)) (Or.inr (Or.inr ⟨rfl, rfl, by decide, by decide⟩)) (by decide +kernel) (by decide +kernel) (by decide +kernel) (Nat.le_of_ble_eq_true rfl) rfl (Or.inl rfl)
theorem b_282_2291 {Z : mZ} {l0 l1 l3 l5 l6 : mV} {s0 x4 : Int} {r2 : Nat} {K : Nat → mK} {σ : Nat → Nat → Int} {n e s : Nat} (h0 : q_ob K n r2 7) : m_run Z (282, 2291, [l0, l1, (2, ((r2 : Nat) : Int)), l3, (0, x4), l5, l6], [(0, s0)], (K, σ, n, e, s)) = (m_cl Z 247 [(2, ((r2 : Nat) : Int))] (K, σ, n, e, s)).bind (m_aft (m_run Z) 282 2294 [l0, l1, (2, ((r2 : Nat) : Int)), l3, (0, x4), (0, s0), l6] []) := by
  refine g_istore (k := 5) (by decide +kernel : decode (m_byt 282) 2291 = .ok (.istore 5, 2)) (Nat.le_of_ble_eq_true rfl) ?_
  show m_run Z (282, 2293, [l0, l1, (2, ((r2 : Nat) : Int)), l3, (0, x4), (0, s0), l6], [], (K, σ, n, e, s)) = _
  refine g_aload_n (k := 2) (v := (2, ((r2 : Nat) : Int))) (by decide +kernel : decode (m_byt 282) 2293 = .ok (.aload_n 2, 1)) rfl (Or.inl rfl) ?_
  exact g_inv (k := 1) (m' := 247) (np := 0) (as := [(2, ((r2 : Nat) : Int))]) (by decide +kernel : decode (m_byt 282) 2294 = .ok (.invokevirtual 231, 3)) (Or.inl ⟨rfl, rfl⟩) (by decide +kernel) (by decide +kernel) (by decide +kernel) (Nat.le_of_ble_eq_true rfl) rfl (Or.inr (g_rcv (by decide +kernel) h0))
theorem b_282_2297 {Z : mZ} {l0 l1 l3 l4 l6 : mV} {s0 x5 : Int} {r2 : Nat} {K : Nat → mK} {σ : Nat → Nat → Int} {n e s : Nat} (h0 : q_ob K n r2 7) : m_run Z (282, 2297, [l0, l1, (2, ((r2 : Nat) : Int)), l3, l4, (0, x5), l6], [(0, s0)], (K, σ, n, e, s)) = (m_cl Z 150 [(2, ((r2 : Nat) : Int))] (K, σ, n, e, s)).bind (m_aft (m_run Z) 282 2300 [l0, l1, (2, ((r2 : Nat) : Int)), l3, l4, (0, x5), (0, s0)] []) := by
  refine g_istore (k := 6) (by decide +kernel : decode (m_byt 282) 2297 = .ok (.istore 6, 2)) (Nat.le_of_ble_eq_true rfl) ?_
  show m_run Z (282, 2299, [l0, l1, (2, ((r2 : Nat) : Int)), l3, l4, (0, x5), (0, s0)], [], (K, σ, n, e, s)) = _
  refine g_aload_n (k := 2) (v := (2, ((r2 : Nat) : Int))) (by decide +kernel : decode (m_byt 282) 2299 = .ok (.aload_n 2, 1)) rfl (Or.inl rfl) ?_
  exact g_inv (k := 1) (m' := 150) (np := 0) (as := [(2, ((r2 : Nat) : Int))]) (by decide +kernel : decode (m_byt 282) 2300 = .ok (.invokevirtual 125, 3)) (Or.inl ⟨rfl, rfl⟩) (by decide +kernel) (by decide +kernel) (by decide +kernel) (Nat.le_of_ble_eq_true rfl) rfl (Or.inr (g_rcv (by decide +kernel) h0))
theorem b_282_2303 {Z : mZ} {l0 l1 l2 l3 l4 l6 : mV} {s0 x5 : Int} {h : mH} : m_run Z (282, 2303, [l0, l1, l2, l3, l4, (0, x5), l6], [(0, s0)], h) = if w32 s0 = w32 x5 then m_run Z (282, 2310, [l0, l1, l2, l3, l4, (0, x5), l6], [], h) else m_run Z (282, 2308, [l0, l1, l2, l3, l4, (0, x5), l6], [], h) := by
  refine g_iload (k := 5) (x := x5) (by decide +kernel : decode (m_byt 282) 2303 = .ok (.iload 5, 2)) rfl ?_
  exact g_brq (t := 2310) (off := 5) (by decide +kernel : decode (m_byt 282) 2305 = .ok (.if_icmp .eq 5, 3)) rfl rfl (by decide)
theorem b_282_2308 {Z : mZ} {l0 l1 l2 l3 l4 l5 l6 : mV} {h : mH} : m_run Z (282, 2308, [l0, l1, l2, l3, l4, l5, l6], [], h) = some (.inl (0, 0), h) := by
  refine g_base (by decide +kernel : decode (m_byt 282) 2308 = .ok (.iconst 0, 1)) rfl rfl ?_
  show m_run Z (282, 2309, [l0, l1, l2, l3, l4, l5, l6], [(0, 0)], h) = _
  exact g_zret (by decide +kernel : decode (m_byt 282) 2309 = .ok (.ireturn, 1)) (by decide +kernel) (by decide)
theorem b_282_2310 {Z : mZ} {l0 l1 l2 l3 l4 l6 : mV} {x5 : Int} {h : mH} : m_run Z (282, 2310, [l0, l1, l2, l3, l4, (0, x5), l6], [], h) = if w32 x5 = 0 then m_run Z (282, 2315, [l0, l1, l2, l3, l4, (0, x5), l6], [], h) else m_run Z (282, 2327, [l0, l1, l2, l3, l4, (0, x5), l6], [], h) := by
  refine g_iload (k := 5) (x := x5) (by decide +kernel : decode (m_byt 282) 2310 = .ok (.iload 5, 2)) rfl ?_
  exact g_brn (t := 2327) (off := 15) (by decide +kernel : decode (m_byt 282) 2312 = .ok (.ifCond .ne 15, 3)) rfl rfl (by decide)
theorem b_282_2315 {Z : mZ} {l0 l1 l2 l4 l5 : mV} {x6 : Int} {r3 : Nat} {K : Nat → mK} {σ : Nat → Nat → Int} {n e s : Nat} (h0 : 0 ≤ w32 0) (h1 : w32 0 < (q_ln K r3 : Int)) (h2 : q_ak K n r3 3) : m_run Z (282, 2315, [l0, l1, l2, (2, ((r3 : Nat) : Int)), l4, l5, (0, x6)], [], (K, σ, n, e, s)) = if w32 (l_cmp (σ r3 (w32 0).toNat) (w32 x6)) = 0 then m_run Z (282, 2327, [l0, l1, l2, (2, ((r3 : Nat) : Int)), l4, l5, (0, x6)], [], (K, σ, n, e, s)) else m_run Z (282, 2325, [l0, l1, l2, (2, ((r3 : Nat) : Int)), l4, l5, (0, x6)], [], (K, σ, n, e, s)) := by
  refine g_aload_n (k := 3) (v := (2, ((r3 : Nat) : Int))) (by decide +kernel : decode (m_byt 282) 2315 = .ok (.aload_n 3, 1)) rfl (Or.inl rfl) ?_
  refine g_base (by decide +kernel : decode (m_byt 282) 2316 = .ok (.iconst 0, 1)) rfl rfl ?_
  show m_run Z (282, 2317, [l0, l1, l2, (2, ((r3 : Nat) : Int)), l4, l5, (0, x6)], [(0, 0), (2, ((r3 : Nat) : Int))], (K, σ, n, e, s)) = _
  refine g_lald (by decide +kernel : decode (m_byt 282) 2317 = .ok (.laload, 1)) h2 h0 h1 ?_
  refine g_iload (k := 6) (x := x6) (by decide +kernel : decode (m_byt 282) 2318 = .ok (.iload 6, 2)) rfl ?_
  refine g_base (by decide +kernel : decode (m_byt 282) 2320 = .ok (.i2l, 1)) rfl rfl ?_
  show m_run Z (282, 2321, [l0, l1, l2, (2, ((r3 : Nat) : Int)), l4, l5, (0, x6)], [(1, (w32 x6)), (1, (σ r3 (w32 0).toNat))], (K, σ, n, e, s)) = _
  refine g_base (by decide +kernel : decode (m_byt 282) 2321 = .ok (.lcmp, 1)) rfl rfl ?_
  show m_run Z (282, 2322, [l0, l1, l2, (2, ((r3 : Nat) : Int)), l4, l5, (0, x6)], [(0, (l_cmp (σ r3 (w32 0).toNat) (w32 x6)))], (K, σ, n, e, s)) = _
  exact g_brq (t := 2327) (off := 5) (by decide +kernel : decode (m_byt 282) 2322 = .ok (.ifCond .eq 5, 3)) rfl rfl (by decide)
theorem b_282_2325 {Z : mZ} {l0 l1 l2 l3 l4 l5 l6 : mV} {h : mH} : m_run Z (282, 2325, [l0, l1, l2, l3, l4, l5, l6], [], h) = some (.inl (0, 0), h) := by
  refine g_base (by decide +kernel : decode (m_byt 282) 2325 = .ok (.iconst 0, 1)) rfl rfl ?_
  show m_run Z (282, 2326, [l0, l1, l2, l3, l4, l5, l6], [(0, 0)], h) = _
  exact g_zret (by decide +kernel : decode (m_byt 282) 2326 = .ok (.ireturn, 1)) (by decide +kernel) (by decide)
theorem b_282_2327 {Z : mZ} {l0 l1 l2 l5 l6 : mV} {x4 : Int} {r3 : Nat} {h : mH} : m_run Z (282, 2327, [l0, l1, l2, (2, ((r3 : Nat) : Int)), (0, x4), l5, l6], [], h) = m_run Z (282, 23, [l0, l1, l2, (2, ((r3 : Nat) : Int)), (0, x4 + 6), l5, l6], [], h) := by
  refine g_jmp (t := 2388) (by decide +kernel : decode (m_byt 282) 2327 = .ok (.goto 61, 3)) (by decide) ?_
  refine g_iinc (k := 4) (x := x4) (by decide +kernel : decode (m_byt 282) 2388 = .ok (.iinc 4 6, 3)) rfl (Nat.le_of_ble_eq_true rfl) ?_
  show m_run Z (282, 2391, [l0, l1, l2, (2, ((r3 : Nat) : Int)), (0, x4 + 6), l5, l6], [], h) = _
  refine g_jmp (t := 23) (by decide +kernel : decode (m_byt 282) 2391 = .ok (.goto (-2368), 3)) (by decide) ?_
  rfl
theorem b_282_2330 {Z : mZ} {l0 l2 l4 l5 l6 : mV} {r1 r3 : Nat} {h : mH} : m_run Z (282, 2330, [l0, (2, ((r1 : Nat) : Int)), l2, (2, ((r3 : Nat) : Int)), l4, l5, l6], [], h) = (m_cl Z 281 [(2, ((r1 : Nat) : Int)), (2, ((r3 : Nat) : Int))] h).bind (m_aft (m_run Z) 282 2332 [l0, (2, ((r1 : Nat) : Int)), l2, (2, ((r3 : Nat) : Int)), l4, l5, l6] []) := by
  refine g_aload_n (k := 1) (v := (2, ((r1 : Nat) : Int))) (by decide +kernel : decode (m_byt 282) 2330 = .ok (.aload_n 1, 1)) rfl (Or.inl rfl) ?_
  refine g_aload_n (k := 3) (v := (2, ((r3 : Nat) : Int))) (by decide +kernel : decode (m_byt 282) 2331 = .ok (.aload_n 3, 1)) rfl (Or.inl rfl) ?_
  exact g_inv (k := 0) (m' := 281) (np := 2) (as := [(2, ((r1 : Nat) : Int)), (2, ((r3 : Nat) : Int))]) (by decide +kernel : decode (m_byt 282) 2332 = .ok (.invokestatic 232, 3)) (Or.inr (Or.inr ⟨rfl, rfl, by decide, by decide⟩)) (by decide +kernel) (by decide +kernel) (by decide +kernel) (Nat.le_of_ble_eq_true rfl) rfl (Or.inl rfl)
theorem b_282_2335 {Z : mZ} {l0 l1 l3 l5 l6 : mV} {s0 x4 : Int} {r2 : Nat} {K : Nat → mK} {σ : Nat → Nat → Int} {n e s : Nat} (h0 : q_ob K n r2 7) : m_run Z (282, 2335, [l0, l1, (2, ((r2 : Nat) : Int)), l3, (0, x4), l5, l6], [(0, s0)], (K, σ, n, e, s)) = (m_cl Z 155 [(2, ((r2 : Nat) : Int))] (K, σ, n, e, s)).bind (m_aft (m_run Z) 282 2338 [l0, l1, (2, ((r2 : Nat) : Int)), l3, (0, x4), (0, s0), l6] []) := by
  refine g_istore (k := 5) (by decide +kernel : decode (m_byt 282) 2335 = .ok (.istore 5, 2)) (Nat.le_of_ble_eq_true rfl) ?_
  show m_run Z (282, 2337, [l0, l1, (2, ((r2 : Nat) : Int)), l3, (0, x4), (0, s0), l6], [], (K, σ, n, e, s)) = _
  refine g_aload_n (k := 2) (v := (2, ((r2 : Nat) : Int))) (by decide +kernel : decode (m_byt 282) 2337 = .ok (.aload_n 2, 1)) rfl (Or.inl rfl) ?_
  exact g_inv (k := 1) (m' := 155) (np := 0) (as := [(2, ((r2 : Nat) : Int))]) (by decide +kernel : decode (m_byt 282) 2338 = .ok (.invokevirtual 234, 3)) (Or.inl ⟨rfl, rfl⟩) (by decide +kernel) (by decide +kernel) (by decide +kernel) (Nat.le_of_ble_eq_true rfl) rfl (Or.inr (g_rcv (by decide +kernel) h0))
theorem b_282_2341 {Z : mZ} {l0 l1 l3 l4 l6 : mV} {s0 x5 : Int} {r2 : Nat} {K : Nat → mK} {σ : Nat → Nat → Int} {n e s : Nat} (h0 : q_ob K n r2 7) : m_run Z (282, 2341, [l0, l1, (2, ((r2 : Nat) : Int)), l3, l4, (0, x5), l6], [(0, s0)], (K, σ, n, e, s)) = (m_cl Z 150 [(2, ((r2 : Nat) : Int))] (K, σ, n, e, s)).bind (m_aft (m_run Z) 282 2344 [l0, l1, (2, ((r2 : Nat) : Int)), l3, l4, (0, x5), (0, s0)] []) := by
  refine g_istore (k := 6) (by decide +kernel : decode (m_byt 282) 2341 = .ok (.istore 6, 2)) (Nat.le_of_ble_eq_true rfl) ?_
  show m_run Z (282, 2343, [l0, l1, (2, ((r2 : Nat) : Int)), l3, l4, (0, x5), (0, s0)], [], (K, σ, n, e, s)) = _
  refine g_aload_n (k := 2) (v := (2, ((r2 : Nat) : Int))) (by decide +kernel : decode (m_byt 282) 2343 = .ok (.aload_n 2, 1)) rfl (Or.inl rfl) ?_
  exact g_inv (k := 1) (m' := 150) (np := 0) (as := [(2, ((r2 : Nat) : Int))]) (by decide +kernel : decode (m_byt 282) 2344 = .ok (.invokevirtual 125, 3)) (Or.inl ⟨rfl, rfl⟩) (by decide +kernel) (by decide +kernel) (by decide +kernel) (Nat.le_of_ble_eq_true rfl) rfl (Or.inr (g_rcv (by decide +kernel) h0))
theorem b_282_2347 {Z : mZ} {l0 l1 l2 l3 l4 l6 : mV} {s0 x5 : Int} {h : mH} : m_run Z (282, 2347, [l0, l1, l2, l3, l4, (0, x5), l6], [(0, s0)], h) = if w32 s0 = w32 x5 then m_run Z (282, 2354, [l0, l1, l2, l3, l4, (0, x5), l6], [], h) else m_run Z (282, 2352, [l0, l1, l2, l3, l4, (0, x5), l6], [], h) := by
  refine g_iload (k := 5) (x := x5) (by decide +kernel : decode (m_byt 282) 2347 = .ok (.iload 5, 2)) rfl ?_
  exact g_brq (t := 2354) (off := 5) (by decide +kernel : decode (m_byt 282) 2349 = .ok (.if_icmp .eq 5, 3)) rfl rfl (by decide)
theorem b_282_2352 {Z : mZ} {l0 l1 l2 l3 l4 l5 l6 : mV} {h : mH} : m_run Z (282, 2352, [l0, l1, l2, l3, l4, l5, l6], [], h) = some (.inl (0, 0), h) := by
  refine g_base (by decide +kernel : decode (m_byt 282) 2352 = .ok (.iconst 0, 1)) rfl rfl ?_
  show m_run Z (282, 2353, [l0, l1, l2, l3, l4, l5, l6], [(0, 0)], h) = _
  exact g_zret (by decide +kernel : decode (m_byt 282) 2353 = .ok (.ireturn, 1)) (by decide +kernel) (by decide)
theorem b_282_2354 {Z : mZ} {l0 l1 l2 l3 l4 l6 : mV} {x5 : Int} {h : mH} : m_run Z (282, 2354, [l0, l1, l2, l3, l4, (0, x5), l6], [], h) = if w32 x5 = 0 then m_run Z (282, 2359, [l0, l1, l2, l3, l4, (0, x5), l6], [], h) else m_run Z (282, 2371, [l0, l1, l2, l3, l4, (0, x5), l6], [], h) := by
  refine g_iload (k := 5) (x := x5) (by decide +kernel : decode (m_byt 282) 2354 = .ok (.iload 5, 2)) rfl ?_
  exact g_brn (t := 2371) (off := 15) (by decide +kernel : decode (m_byt 282) 2356 = .ok (.ifCond .ne 15, 3)) rfl rfl (by decide)
theorem b_282_2359 {Z : mZ} {l0 l1 l2 l4 l5 : mV} {x6 : Int} {r3 : Nat} {K : Nat → mK} {σ : Nat → Nat → Int} {n e s : Nat} (h0 : 0 ≤ w32 0) (h1 : w32 0 < (q_ln K r3 : Int)) (h2 : q_ak K n r3 3) : m_run Z (282, 2359, [l0, l1, l2, (2, ((r3 : Nat) : Int)), l4, l5, (0, x6)], [], (K, σ, n, e, s)) = if w32 (l_cmp (σ r3 (w32 0).toNat) (w32 x6)) = 0 then m_run Z (282, 2371, [l0, l1, l2, (2, ((r3 : Nat) : Int)), l4, l5, (0, x6)], [], (K, σ, n, e, s)) else m_run Z (282, 2369, [l0, l1, l2, (2, ((r3 : Nat) : Int)), l4, l5, (0, x6)], [], (K, σ, n, e, s)) := by
  refine g_aload_n (k := 3) (v := (2, ((r3 : Nat) : Int))) (by decide +kernel : decode (m_byt 282) 2359 = .ok (.aload_n 3, 1)) rfl (Or.inl rfl) ?_
  refine g_base (by decide +kernel : decode (m_byt 282) 2360 = .ok (.iconst 0, 1)) rfl rfl ?_
  show m_run Z (282, 2361, [l0, l1, l2, (2, ((r3 : Nat) : Int)), l4, l5, (0, x6)], [(0, 0), (2, ((r3 : Nat) : Int))], (K, σ, n, e, s)) = _
  refine g_lald (by decide +kernel : decode (m_byt 282) 2361 = .ok (.laload, 1)) h2 h0 h1 ?_
  refine g_iload (k := 6) (x := x6) (by decide +kernel : decode (m_byt 282) 2362 = .ok (.iload 6, 2)) rfl ?_
  refine g_base (by decide +kernel : decode (m_byt 282) 2364 = .ok (.i2l, 1)) rfl rfl ?_
  show m_run Z (282, 2365, [l0, l1, l2, (2, ((r3 : Nat) : Int)), l4, l5, (0, x6)], [(1, (w32 x6)), (1, (σ r3 (w32 0).toNat))], (K, σ, n, e, s)) = _
  refine g_base (by decide +kernel : decode (m_byt 282) 2365 = .ok (.lcmp, 1)) rfl rfl ?_
  show m_run Z (282, 2366, [l0, l1, l2, (2, ((r3 : Nat) : Int)), l4, l5, (0, x6)], [(0, (l_cmp (σ r3 (w32 0).toNat) (w32 x6)))], (K, σ, n, e, s)) = _
  exact g_brq (t := 2371) (off := 5) (by decide +kernel : decode (m_byt 282) 2366 = .ok (.ifCond .eq 5, 3)) rfl rfl (by decide)
theorem b_282_2369 {Z : mZ} {l0 l1 l2 l3 l4 l5 l6 : mV} {h : mH} : m_run Z (282, 2369, [l0, l1, l2, l3, l4, l5, l6], [], h) = some (.inl (0, 0), h) := by
  refine g_base (by decide +kernel : decode (m_byt 282) 2369 = .ok (.iconst 0, 1)) rfl rfl ?_
  show m_run Z (282, 2370, [l0, l1, l2, l3, l4, l5, l6], [(0, 0)], h) = _
  exact g_zret (by decide +kernel : decode (m_byt 282) 2370 = .ok (.ireturn, 1)) (by decide +kernel) (by decide)
theorem b_282_2371 {Z : mZ} {l0 l1 l2 l5 l6 : mV} {x4 : Int} {r3 : Nat} {h : mH} : m_run Z (282, 2371, [l0, l1, l2, (2, ((r3 : Nat) : Int)), (0, x4), l5, l6], [], h) = m_run Z (282, 23, [l0, l1, l2, (2, ((r3 : Nat) : Int)), (0, x4 + 6), l5, l6], [], h) := by
  refine g_jmp (t := 2388) (by decide +kernel : decode (m_byt 282) 2371 = .ok (.goto 17, 3)) (by decide) ?_
  refine g_iinc (k := 4) (x := x4) (by decide +kernel : decode (m_byt 282) 2388 = .ok (.iinc 4 6, 3)) rfl (Nat.le_of_ble_eq_true rfl) ?_
  show m_run Z (282, 2391, [l0, l1, l2, (2, ((r3 : Nat) : Int)), (0, x4 + 6), l5, l6], [], h) = _
  refine g_jmp (t := 23) (by decide +kernel : decode (m_byt 282) 2391 = .ok (.goto (-2368), 3)) (by decide) ?_
  rfl
theorem b_282_2374 {Z : mZ} {l0 l2 l3 l4 l5 l6 : mV} {r1 : Nat} {K : Nat → mK} {σ : Nat → Nat → Int} {n e s : Nat} (h0 : q_ob K n r1 6) : m_run Z (282, 2374, [l0, (2, ((r1 : Nat) : Int)), l2, l3, l4, l5, l6], [], (K, σ, n, e, s)) = (m_cl Z 129 [(2, ((r1 : Nat) : Int))] (K, σ, n, e, s)).bind (m_aft (m_run Z) 282 2375 [l0, (2, ((r1 : Nat) : Int)), l2, l3, l4, l5, l6] []) := by
  refine g_aload_n (k := 1) (v := (2, ((r1 : Nat) : Int))) (by decide +kernel : decode (m_byt 282) 2374 = .ok (.aload_n 1, 1)) rfl (Or.inl rfl) ?_
  exact g_inv (k := 1) (m' := 129) (np := 0) (as := [(2, ((r1 : Nat) : Int))]) (by decide +kernel : decode (m_byt 282) 2375 = .ok (.invokevirtual 235, 3)) (Or.inl ⟨rfl, rfl⟩) (by decide +kernel) (by decide +kernel) (by decide +kernel) (Nat.le_of_ble_eq_true rfl) rfl (Or.inr (g_rcv (by decide +kernel) h0))
theorem b_282_2378 {Z : mZ} {l0 l1 l3 l4 l5 l6 : mV} {s0 : Int} {r2 : Nat} {K : Nat → mK} {σ : Nat → Nat → Int} {n e s : Nat} (h0 : q_ob K n r2 7) : m_run Z (282, 2378, [l0, l1, (2, ((r2 : Nat) : Int)), l3, l4, l5, l6], [(1, s0)], (K, σ, n, e, s)) = (m_cl Z 250 [(2, ((r2 : Nat) : Int))] (K, σ, n, e, s)).bind (m_aft (m_run Z) 282 2379 [l0, l1, (2, ((r2 : Nat) : Int)), l3, l4, l5, l6] [(1, s0)]) := by
  refine g_aload_n (k := 2) (v := (2, ((r2 : Nat) : Int))) (by decide +kernel : decode (m_byt 282) 2378 = .ok (.aload_n 2, 1)) rfl (Or.inl rfl) ?_
  exact g_inv (k := 1) (m' := 250) (np := 0) (as := [(2, ((r2 : Nat) : Int))]) (by decide +kernel : decode (m_byt 282) 2379 = .ok (.invokevirtual 239, 3)) (Or.inl ⟨rfl, rfl⟩) (by decide +kernel) (by decide +kernel) (by decide +kernel) (Nat.le_of_ble_eq_true rfl) rfl (Or.inr (g_rcv (by decide +kernel) h0))
theorem b_282_2382 {Z : mZ} {l0 l1 l2 l3 l4 l5 l6 : mV} {s0 s1 : Int} {h : mH} : m_run Z (282, 2382, [l0, l1, l2, l3, l4, l5, l6], [(1, s0), (1, s1)], h) = if w32 (l_cmp s1 s0) = 0 then m_run Z (282, 2388, [l0, l1, l2, l3, l4, l5, l6], [], h) else m_run Z (282, 2386, [l0, l1, l2, l3, l4, l5, l6], [], h) := by
  refine g_base (by decide +kernel : decode (m_byt 282) 2382 = .ok (.lcmp, 1)) rfl rfl ?_
  show m_run Z (282, 2383, [l0, l1, l2, l3, l4, l5, l6], [(0, (l_cmp s1 s0))], h) = _
  exact g_brq (t := 2388) (off := 5) (by decide +kernel : decode (m_byt 282) 2383 = .ok (.ifCond .eq 5, 3)) rfl rfl (by decide)
theorem b_282_2386 {Z : mZ} {l0 l1 l2 l3 l4 l5 l6 : mV} {h : mH} : m_run Z (282, 2386, [l0, l1, l2, l3, l4, l5, l6], [], h) = some (.inl (0, 0), h) := by
  refine g_base (by decide +kernel : decode (m_byt 282) 2386 = .ok (.iconst 0, 1)) rfl rfl ?_
  show m_run Z (282, 2387, [l0, l1, l2, l3, l4, l5, l6], [(0, 0)], h) = _
  exact g_zret (by decide +kernel : decode (m_byt 282) 2387 = .ok (.ireturn, 1)) (by decide +kernel) (by decide)
theorem b_282_2388 {Z : mZ} {l0 l1 l2 l5 l6 : mV} {x4 : Int} {r3 : Nat} {h : mH} : m_run Z (282, 2388, [l0, l1, l2, (2, ((r3 : Nat) : Int)), (0, x4), l5, l6], [], h) = m_run Z (282, 23, [l0, l1, l2, (2, ((r3 : Nat) : Int)), (0, x4 + 6), l5, l6], [], h) := by
  refine g_iinc (k := 4) (x := x4) (by decide +kernel : decode (m_byt 282) 2388 = .ok (.iinc 4 6, 3)) rfl (Nat.le_of_ble_eq_true rfl) ?_
  show m_run Z (282, 2391, [l0, l1, l2, (2, ((r3 : Nat) : Int)), (0, x4 + 6), l5, l6], [], h) = _
  refine g_jmp (t := 23) (by decide +kernel : decode (m_byt 282) 2391 = .ok (.goto (-2368), 3)) (by decide) ?_
  rfl
theorem b_282_2394 {Z : mZ} {l0 l1 l2 l3 l4 l5 l6 : mV} {h : mH} : m_run Z (282, 2394, [l0, l1, l2, l3, l4, l5, l6], [], h) = some (.inl (0, 1), h) := by
  refine g_base (by decide +kernel : decode (m_byt 282) 2394 = .ok (.iconst 1, 1)) rfl rfl ?_
  show m_run Z (282, 2395, [l0, l1, l2, l3, l4, l5, l6], [(0, 1)], h) = _
  exact g_zret (by decide +kernel : decode (m_byt 282) 2395 = .ok (.ireturn, 1)) (by decide +kernel) (by decide)
end
