section
/-! What the small machine comes to, the machine comes to. -/
def mt_prims (E : mE) (Z : mZ) (l : Launch) : Prop := ∀ (m : Nat) (as : List mV) (h : mH) (q : mO), 283 ≤ m → m_prm m as h = some q → mt_ok E Z l m as h q
theorem m_prm_id {m : Nat} {as : List mV} {h : mH} {q : mO} (e : m_prm m as h = some q) : m = 1000 ∨ m = 1001 ∨ m = 1002 := by
  unfold m_prm at e
  split at e
  · exact Or.inl rfl
  · exact Or.inr (Or.inl rfl)
  · exact Or.inr (Or.inr rfl)
  · cases e
theorem mt_vo_app (E : mE) (v : mV) (rest : List mV) : (mt_vo E v).toList ++ rest.map (mt_v E) = (if v.1 = 9 then rest else v :: rest).map (mt_v E) := by
  unfold mt_vo
  by_cases h : v.1 = 9
  · rw [if_pos h, if_pos h]; rfl
  · rw [if_neg h, if_neg h]; rfl
def mx_i (x : Nat) : Nat := if x = 0 then 21 else if x = 1 then 15 else 23
theorem mx_hanA : mm_hanL.all (fun r => decide (m_cls r.1 = 8 ∧ r.1 ≠ 282) && r.2.all (fun z => decide (m_exc z.2.2.2 < 3 ∧ z.2.2.2 = mx_i (m_exc z.2.2.2)))) = true := by decide +kernel
theorem mx_han {m : Nat} {z : Nat × Nat × Nat × Nat} (hz : z ∈ m_han m) : (m_cls m = 8 ∧ m ≠ 282) ∧ m_exc z.2.2.2 < 3 ∧ z.2.2.2 = mx_i (m_exc z.2.2.2) := by
  unfold m_han at hz
  cases hf : mm_hanL.find? (fun r => r.1 == m) with
  | none => rw [hf] at hz; cases hz
  | some r =>
    rw [hf] at hz
    have h1 := List.all_eq_true.mp mx_hanA r (List.mem_of_find?_eq_some hf)
    have h2 := List.find?_some hf
    simp only [beq_iff_eq] at h2
    simp only [Bool.and_eq_true, decide_eq_true_eq] at h1
    rw [h2] at h1
    have h3 := List.all_eq_true.mp h1.2 z hz
    exact ⟨h1.1, of_decide_eq_true h3⟩
section MTS2
variable {p : Program} {l : Launch} {e : Env} {R : Room} {s : State} {mid : MethodId} {args : Array Value} {below : List Frame} {meth : Method} {c : Code} {H : Heap} {locs : List Loc} {cells slots : Nat} {Q : State → Prop}
theorem mt_catch {E : mE} {Z : mZ} {m pc x hp q' : Nat} {ls ls' : List mV} {lsR : Array Slot} {ce : Cell} {q9 : Addr} {rest : List Value} (C : mt_Cx E Z m p R s mid args meth c) (hh : m_hdl m pc x = some hp) (hs : m_hst m hp ls = some (q', ls')) (hx3 : x < 3) (hL : mt_L E lsR (m_max m) ls)
    (hcell : H[q9]? = some ce) (hv : ce.vm = .none) (hcl : s.vm.findClass (m_exn x) = some ce.cls)
    (kk : ∀ lsR' : Array Slot, mt_L E lsR' (m_max m) ls' → W p l e R s mid args below meth c H locs cells slots Q (F0 mid q' lsR' [])) : vx_W p l e R s mid args below meth c H locs cells slots Q (F0 mid pc lsR rest) q9 := by
  obtain ⟨⟨hx, hb, hml, hown, hts⟩, hlk, hnm, hex, hRR, hK, hrt⟩ := C
  unfold m_hdl at hh
  obtain ⟨z, hf, rfl⟩ := Option.map_eq_some_iff.mp hh
  obtain ⟨hz, pre, suf, hsplit, hpre⟩ := List.find?_eq_some_iff_append.mp hf
  obtain ⟨z1, z2, z3⟩ := of_decide_eq_true hz
  have hmem : z ∈ m_han m := by rw [hsplit]; simp
  obtain ⟨⟨c8, c9⟩, c3, ci⟩ := mx_han hmem
  have hRL : m_cn (m_cls m) = RL := by rw [c8]; rfl
  rw [hRL] at hown
  have hlw : ∀ y, y < 3 → (Cond.classLink RL (mx_i y) (m_exn y)).before args s = true := fun y hy => hts _ (mt_tbl (mw_exL y hy))
  obtain ⟨-, -, -, -, hfw, hnc⟩ := hK.2
  refine vx_catch (own := RL) (name := m_exn x) hown (tableOf pre) ⟨z.1, z.2.1, z.2.2.1, z.2.2.2⟩ (tableOf suf) ?_ ?_ ?_ ?_ ?_ ?_ hcell hv hcl ?_
  · rw [hex c9, hsplit]
    unfold tableOf
    rw [List.map_append, List.map_cons]
  · intro y hy
    unfold tableOf at hy
    obtain ⟨y0, hy0, rfl⟩ := List.mem_map.mp hy
    have hy1 := hpre y0 hy0
    have hym : y0 ∈ m_han m := by rw [hsplit]; exact List.mem_append_left _ hy0
    obtain ⟨-, d3, di⟩ := mx_han hym
    by_cases hcov : y0.1 ≤ pc ∧ pc < y0.2.1
    · refine Or.inr ⟨?_, m_exn (m_exc y0.2.2.2), ?_, ?_⟩
      · show y0.2.2.2 ≠ 0
        rw [di]
        unfold mx_i
        split
        · decide
        · split <;> decide
      · show (Cond.classLink RL y0.2.2.2 _).before args s = true
        rw [di]
        have := hlw _ d3
        rw [← di] at this ⊢
        exact this
      · refine hnc x _ hx3 d3 ?_
        intro hxe
        simp only [Bool.not_eq_true', decide_eq_false_iff_not] at hy1
        exact hy1 ⟨hcov.1, hcov.2, hxe.symm⟩
    · refine Or.inl ?_
      show (decide (y0.1 ≤ pc) && decide (pc < y0.2.1)) = false
      rw [← Bool.decide_and]
      exact decide_eq_false hcov
  · show (decide (z.1 ≤ pc) && decide (pc < z.2.1)) = true
    rw [decide_eq_true z1, decide_eq_true z2]; rfl
  · show z.2.2.2 ≠ 0
    rw [ci]
    unfold mx_i
    split
    · decide
    · split <;> decide
  · show (Cond.classLink RL z.2.2.2 (m_exn x)).before args s = true
    rw [ci, z3]
    exact hlw x hx3
  · refine va_Nw.use rfl (hfw _ ?_)
    unfold mt_fw
    rcases (show x = 0 ∨ x = 1 ∨ x = 2 by omega) with rfl | rfl | rfl <;> simp
  · unfold m_hst at hs
    split at hs
    · next k hd =>
      split at hs
      · next hk =>
        cases hs
        rw [hL.2.1] at hk
        exact lv_astore_n hx hb hd rfl hL.has hk rfl (fun lsR' h' => kk lsR' (hL.junk hk h'))
      · cases hs
    · next k hd =>
      split at hs
      · next hk =>
        cases hs
        rw [hL.2.1] at hk
        exact lv_astore hx hb hd hL.has hk rfl (fun lsR' h' => kk lsR' (hL.junk hk h'))
      · cases hs
    · cases hs
end MTS2
theorem mt_W {E : mE} {Z : mZ} {l : Launch} (HP : mt_prims E Z l) : ∀ n, mt_Wn E Z l n := by
  intro n
  induction n with
  | zero => intro m pc ls st h r e; cases e
  | succ n IH =>
    intro m pc ls st h r ev hm hlaw p e R s mid args below meth c H locs cells slots lsR mc ms C hL hR hS hz hcn hsn hmc hms
    have hle : mt_n h ≤ mt_n r.2 ∧ h.2.2.2.2 ≤ r.2.2.2.2.2 := mt_inv_n (m_ev_le _ _ _ ev)
    have ev : m_ev1 Z (m_ev Z n) (m, pc, ls, st, h) = some r := ev
    unfold m_ev1 m_step at ev
    dsimp only at ev
    cases hd : decode (m_byt m) pc with
    | error x => rw [hd] at ev; cases ev
    | ok x =>
      obtain ⟨ins, len⟩ := x
      rw [hd] at ev
      dsimp only at ev
      by_cases ho : m_okl ins len = true
      · rw [if_pos ho] at ev
        have hrl := m_ins_rl Z ins m pc ls st h
        cases hi : m_ins Z ins m pc ls st h with
        | none => rw [hi] at ev; cases ev
        | some y =>
          rw [hi] at ev hrl
          match y with
          | .inl s' =>
            obtain ⟨m2, pc2, ls2, st2, h2⟩ := s'
            have ev2 : m_ev Z n (m2, pc2, ls2, st2, h2) = some r := ev
            have hm2 : m2 = m := m_ins_same hi
            subst hm2
            have hl2 : mt_n h2 ≤ mt_n r.2 ∧ h2.2.2.2.2 ≤ r.2.2.2.2.2 := mt_inv_n (m_ev_le _ _ _ ev2)
            have hl1 : m_le h h2 := hrl
            have hl3 : mt_n h ≤ mt_n h2 ∧ h.2.2.2.2 ≤ h2.2.2.2.2 := ⟨Nat.add_le_add hl1.1 hl1.2.1, hl1.2.2⟩
            refine mt_step C hd ho hi hL hR hS hz ?_ ?_ ⟨by omega, by omega⟩ ?_
            · show cells + mt_n h2 ≤ _; omega
            · show slots + h2.2.2.2.2 ≤ _; omega
            · intro cells' slots' lsR' H' locs' q1 q2 q3 q4 q5
              have q1 : cells' + mt_n h = cells + mt_n h2 := q1
              have q2 : slots' + h.2.2.2.2 = slots + h2.2.2.2.2 := q2
              refine IH m2 pc2 ls2 st2 h2 r ev2 hm hlaw mc ms C q3 q4 q5 ?_ ?_ ?_ hmc hms
              · intro h0
                have h00 : h.2.2.2.1 = 0 := Nat.le_zero.mp (h0 ▸ hl1.2.1)
                have := hz h00
                unfold mt_n at q1
                omega
              · omega
              · omega
          | .inr (.inl x) =>
            have ev : some ((.inl x.1, x.2) : mO) = some r := ev
            cases ev
            have hx2 : x.2 = h := hrl.1
            have e1 : cells = mc := by
              have h1 : cells + mt_n x.2 = mc + mt_n h := hcn
              rw [hx2] at h1
              omega
            have e2 : slots = ms := by
              have h1 : slots + x.2.2.2.2.2 = ms + h.2.2.2.2 := hsn
              rw [hx2] at h1
              omega
            subst e1 e2
            exact mt_ret C hd ho hrl hR hS
          | .inr (.inr c0) =>
            obtain ⟨i, m', np, k, hmet, hcall, hins⟩ := hrl
            obtain ⟨⟨g1, g2, g3, g4, g5⟩, hc0⟩ := m_call_inv hcall
            obtain rfl := Sum.inr.inj hc0
            have ev : (m_cal (m_ev Z n) m' (st.take (if k = 0 then np else np + 1)).reverse h).bind (m_aft (m_ev Z n) m pc ls (st.drop (if k = 0 then np else np + 1))) = some r := ev
            obtain ⟨q, hq, ev⟩ := Option.bind_eq_some_iff.mp ev
            have hlq : m_le h q.2 := m_cal_le (fun s o => m_ev_le n s o) hq
            have hlr : m_le q.2 r.2 := m_aft_le (fun s o => m_ev_le n s o) ev
            have l1 : mt_n h ≤ mt_n q.2 ∧ h.2.2.2.2 ≤ q.2.2.2.2.2 := ⟨Nat.add_le_add hlq.1 hlq.2.1, hlq.2.2⟩
            have l2 : mt_n q.2 ≤ mt_n r.2 ∧ q.2.2.2.2.2 ≤ r.2.2.2.2.2 := ⟨Nat.add_le_add hlr.1 hlr.2.1, hlr.2.2⟩
            have hm' : m' < 282 ∨ m' = 1000 ∨ m' = 1001 ∨ m' = 1002 := by
              rcases m_met_ok hmet with h1 | h1
              · exact Or.inl h1
              · rcases m_cal_inv hq with ⟨h2, -⟩ | ⟨-, h2⟩
                · omega
                · exact Or.inr (m_prm_id h2)
            have hok : mt_ok E Z l m' (st.take (if k = 0 then np else np + 1)).reverse h q ∧ (k = 2 → ∃ v, q.1 = .inl v) := by
              rcases m_cal_inv hq with ⟨h1, h2, h3, h4⟩ | ⟨h1, h2⟩
              · refine ⟨mt_body IH (by omega) h2 h3, fun hk => ?_⟩
                cases hq1 : q.1 with
                | inl v => exact ⟨v, rfl⟩
                | inr x => exact absurd (g1.trans hk) (h4 x hq1)
              · refine ⟨HP _ _ _ _ h1 h2, fun hk => ?_⟩
                rcases m_prm_id h2 with rfl | rfl | rfl
                all_goals (rw [hk] at g1; exact absurd g1 (by decide))
            have hlen : len = 3 := by
              rcases hins with ⟨rfl, -⟩ | ⟨rfl, -⟩ | ⟨rfl, -⟩ <;> simpa [m_okl] using ho
            subst hlen
            refine mt_size fun hsz => ?_
            have hzz : h.2.2.2.1 = 0 → H.size ≤ E.1 + h.2.2.1 := fun h0 => Nat.le_trans hsz (hz h0)
            refine mt_callr (mt_run C hmet hins hd g1 g2 g3 g4 g5 hm' hok.1 hok.2 hL hR hS hzz (by omega) (by omega)) hS ?_ ?_
            · intro v H1 locs1 hq1 hR1 hS1
              obtain ⟨q1, q2⟩ := q
              have hq1 : q1 = .inl v := hq1
              subst hq1
              have ev : m_ev Z n (m, pc + 3, ls, (if v.1 = 9 then st.drop (if k = 0 then np else np + 1) else v :: st.drop (if k = 0 then np else np + 1)), q2) = some r := ev
              rw [mt_vo_app]
              refine IH m (pc + 3) ls _ q2 r ev hm hlaw mc ms C hL hR1 hS1 ?_ ?_ ?_ hmc hms
              · intro h0
                have h0 : q2.2.2.2.1 = 0 := h0
                have h00 : h.2.2.2.1 = 0 := Nat.le_zero.mp (h0 ▸ hlq.2.1)
                have h1 := hz h00
                have h2 : h.2.2.1 ≤ q2.2.2.1 := hlq.1
                show s.heap.size + (cells + (mt_n q2 - mt_n h)) ≤ _
                unfold mt_n
                omega
              · show cells + (mt_n q2 - mt_n h) + _ = _
                have : mt_n h ≤ mt_n q2 := l1.1
                omega
              · show slots + (q2.2.2.2.2 - h.2.2.2.2) + _ = _
                have : h.2.2.2.2 ≤ q2.2.2.2.2 := l1.2
                omega
            · intro x ce q9 H1 locs1 hq1 hx3 hR1 hS1 hce hcv hcl
              obtain ⟨q1, q2⟩ := q
              have hq1 : q1 = .inr x := hq1
              subst hq1
              have hd1 : cells + (mt_n q2 - mt_n h) + mt_n r.2 = mc + mt_n q2 := by
                have : mt_n h ≤ mt_n q2 := l1.1
                omega
              have hd2 : slots + (q2.2.2.2.2 - h.2.2.2.2) + r.2.2.2.2.2 = ms + q2.2.2.2.2 := by
                have : h.2.2.2.2 ≤ q2.2.2.2.2 := l1.2
                omega
              simp only [m_aft] at ev
              cases hdl : m_hdl m pc x with
              | none =>
                rw [hdl] at ev
                dsimp only at ev
                by_cases hem : (m_han m).isEmpty = true
                · rw [if_pos hem] at ev
                  cases ev
                  have hnil : m_han m = [] := List.isEmpty_iff.mp hem
                  have h282 : m ≠ 282 := by
                    intro q
                    obtain ⟨v, hv⟩ := hlaw q
                    cases hv
                  refine vx_out ?_ C.2.1 hce hcv hcl ?_ hS1.2.2 ?_ ?_
                  · intro z hz9
                    rw [C.2.2.2.1 h282, hnil] at hz9
                    cases hz9
                  · intro t ht _
                    exact ⟨x, hx3, rfl, rfl, by rw [ht]; exact hR1, hS1.F ht⟩
                  · have hd1 : cells + (mt_n q2 - mt_n h) + mt_n q2 = mc + mt_n q2 := hd1
                    show cells + (mt_n q2 - mt_n h) ≤ mc
                    omega
                  · have hd2 : slots + (q2.2.2.2.2 - h.2.2.2.2) + q2.2.2.2.2 = ms + q2.2.2.2.2 := hd2
                    show slots + (q2.2.2.2.2 - h.2.2.2.2) ≤ ms
                    omega
                · rw [if_neg hem] at ev; cases ev
              | some hp =>
                rw [hdl] at ev
                dsimp only at ev
                cases hst : m_hst m hp ls with
                | none => rw [hst] at ev; cases ev
                | some y =>
                  obtain ⟨q', ls'⟩ := y
                  rw [hst] at ev
                  have ev : m_ev Z n (m, q', ls', [], q2) = some r := ev
                  refine mt_catch C hdl hst hx3 hL hce hcv hcl ?_
                  intro lsR' hL'
                  refine IH m q' ls' [] q2 r ev hm hlaw mc ms C hL' hR1 hS1 ?_ hd1 hd2 hmc hms
                  intro h0
                  have h0 : q2.2.2.2.1 = 0 := h0
                  have h00 : h.2.2.2.1 = 0 := Nat.le_zero.mp (h0 ▸ hlq.2.1)
                  have h1 := hz h00
                  have h2 : h.2.2.1 ≤ q2.2.2.1 := hlq.1
                  show s.heap.size + (cells + (mt_n q2 - mt_n h)) ≤ _
                  unfold mt_n
                  omega
      · rw [if_neg ho] at ev; cases ev
end
