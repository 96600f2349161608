section
/-! The invocations. -/
theorem mw_rq : (Cond.code yX6_requireSuch cX6_requireSuch 1 none ∈ lw_tbl ∧ goodWord (Cond.code yX6_requireSuch cX6_requireSuch 1 none) = true) ∧ (Cond.code yX6_requireValid cX6_requireValid 1 none ∈ lw_tbl ∧ goodWord (Cond.code yX6_requireValid cX6_requireValid 1 none) = true) ∧ (Cond.code yX6_requireNow cX6_requireNow 1 none ∈ lw_tbl ∧ goodWord (Cond.code yX6_requireNow cX6_requireNow 1 none) = true) := ⟨mw_in (p := (3, 28)) (by decide +kernel), mw_in (p := (2, 159)) (by decide +kernel), mw_in (p := (3, 47)) (by decide +kernel)⟩
theorem mw_rqs : (Cond.static yX6_requireSuch ∈ lw_tbl ∧ goodWord (Cond.static yX6_requireSuch) = true) ∧ (Cond.static yX6_requireValid ∈ lw_tbl ∧ goodWord (Cond.static yX6_requireValid) = true) ∧ (Cond.static yX6_requireNow ∈ lw_tbl ∧ goodWord (Cond.static yX6_requireNow) = true) := ⟨mw_in (p := (3, 27)) (by decide +kernel), mw_in (p := (2, 158)) (by decide +kernel), mw_in (p := (3, 46)) (by decide +kernel)⟩
theorem mw_exL : ∀ x, x < 3 → (Cond.classLink RL (if x = 0 then 21 else if x = 1 then 15 else 23) (m_exn x) ∈ lw_tbl ∧ goodWord (Cond.classLink RL (if x = 0 then 21 else if x = 1 then 15 else 23) (m_exn x)) = true) := by
  intro x hx
  rcases (show x = 0 ∨ x = 1 ∨ x = 2 by omega) with rfl | rfl | rfl
  · exact mw_in (p := (3, 5)) (by decide +kernel)
  · exact mw_in (p := (2, 152)) (by decide +kernel)
  · exact mw_in (p := (3, 6)) (by decide +kernel)
/-- a method that may be called: its code's word, how it is called -/
theorem mt_wcG {m : Nat} (h : m < 282 ∨ m = 1000 ∨ m = 1001 ∨ m = 1002) : ∀ w ∈ mt_wc m, w ∈ lw_tbl ∧ goodWord w = true := by
  intro w hw
  rcases List.mem_cons.mp hw with rfl | hw
  · rcases h with h | rfl | rfl | rfl
    · unfold m_cd
      rw [if_pos (by omega)]
      obtain ⟨p, hp⟩ := mw_cA_282 m h
      have hg := mw_codG m h
      refine mw_in (p := p) ?_
      unfold mw_ok
      rw [hg, decide_eq_true hp]
      rfl
    · exact mw_rq.1
    · exact mw_rq.2.1
    · exact mw_rq.2.2
  · exact List.mem_filter.mp hw
theorem mt_good {m : Nat} {w : Cond} (h : w ∈ lw_tbl ∧ goodWord w = true) : w ∈ mt_ws m ∧ ((w.onTables && w.keeps) = true ∨ ∃ ty, w = .arrayClass ty) := ⟨mt_tbl h, good_of_word h.2⟩
theorem mt_iniW {m : Nat} (h : m < 282 ∨ m = 1000 ∨ m = 1001 ∨ m = 1002) : Cond.initialized (mw_pz m).cls ∈ lw_tbl ∧ goodWord (Cond.initialized (mw_pz m).cls) = true := by
  rcases h with h | rfl | rfl | rfl
  · obtain ⟨g1, -, g3, -⟩ := mc_okm h
    rw [mw_pz_lt (by omega), g1]
    exact mw_in (mw_iniA _ g3)
  · exact mw_in (mw_iniA 6 (by omega))
  · exact mw_in (mw_iniA 6 (by omega))
  · exact mw_in (mw_iniA 6 (by omega))
theorem mt_notMH {m : Nat} (h : m < 282 ∨ m = 1000 ∨ m = 1001 ∨ m = 1002) : (mw_pz m).cls ≠ "java/lang/invoke/MethodHandle" ∧ (mw_pz m).cls ≠ "java/lang/invoke/VarHandle" := by
  rcases h with h | rfl | rfl | rfl
  · obtain ⟨-, -, -, g4, g5, -⟩ := mc_okm h
    rw [mw_pz_lt (by omega)]
    exact ⟨g4, g5⟩
  all_goals exact ⟨by decide, by decide⟩
theorem mt_staW {m : Nat} (h : m < 282 ∧ m_sta m = true ∨ m = 1000 ∨ m = 1001 ∨ m = 1002) : Cond.static (mw_pz m) ∈ lw_tbl ∧ goodWord (Cond.static (mw_pz m)) = true := by
  rcases h with ⟨h, h2⟩ | rfl | rfl | rfl
  · have h1 := mw_insA m h
    unfold m_ism at h1
    rw [if_pos h2] at h1
    rw [mw_pz_lt (by omega)]
    exact mw_in h1
  · exact mw_rqs.1
  · exact mw_rqs.2.1
  · exact mw_rqs.2.2
theorem mt_insW {m : Nat} (h : m < 282 ∧ m_sta m = false) : Cond.instanceMethod (mw_pz m) ∈ lw_tbl ∧ goodWord (Cond.instanceMethod (mw_pz m)) = true := by
  obtain ⟨h, h2⟩ := h
  · have h1 := mw_insA m h
    unfold m_ism at h1
    rw [if_neg (by rw [h2]; decide)] at h1
    rw [mw_pz_lt (by omega)]
    exact mw_in h1
theorem mt_selW {m : Nat} (h : m < 282 ∧ m_sta m = false ∧ (m_nam m).name ≠ "<init>") : Cond.selects (mw_pz m).cls (mw_pz m) (mw_pz m) ∈ lw_tbl ∧ goodWord (Cond.selects (mw_pz m).cls (mw_pz m) (mw_pz m)) = true := by
  obtain ⟨h, h2, h3⟩ := h
  · have h1 := mw_selA m h
    rw [mw_pz_lt (by omega)]
    generalize mw_sel.getD m (9, 0) = p at h1
    unfold mw_sl at h1
    by_cases k0 : p.1 = 0
    · rw [if_pos k0] at h1
      simp only [Bool.and_eq_true, beq_iff_eq] at h1
      obtain ⟨h4, h5⟩ := h1
      obtain ⟨q, hq, hq2⟩ := Option.map_eq_some_iff.mp h4
      refine ⟨?_, h5⟩
      unfold lw_tbl
      refine List.mem_append_left _ ?_
      unfold k2_sels
      exact List.mem_map.mpr ⟨q, List.mem_of_getElem? hq, by rw [hq2]⟩
    · rw [if_neg k0] at h1
      by_cases k9 : p.1 = 9
      · rw [if_pos k9, h2] at h1
        simp only [Bool.false_or, beq_iff_eq] at h1
        exact absurd h1 h3
      · rw [if_neg k9] at h1
        exact mw_in h1
theorem mt_metw2 {cl i m' np : Nat} (h : m_met cl i = some (m', np)) : (cl = 6 ∧ (i = 25 ∧ m' = mX5_init ∨ i = 48 ∧ m' = mX4_init) ∨ Cond.methodLink (m_cn cl) i (mw_pz m') ∈ lw_tbl ∧ goodWord (Cond.methodLink (m_cn cl) i (mw_pz m')) = true) ∧ (parseMethodDescriptor (mw_pz m').desc).map (fun d => d.parameters.length) = some np := by
  unfold m_met at h
  obtain ⟨r, h1, h2⟩ := Option.map_eq_some_iff.mp h
  have h3 := List.find?_some h1
  have h6 := List.mem_of_find?_eq_some h1
  simp only [Bool.and_eq_true, beq_iff_eq] at h3
  obtain ⟨a, b, cc, d⟩ := r
  dsimp only at h2 h3
  obtain ⟨rfl, rfl⟩ := h3
  cases h2
  obtain ⟨j, hj, e⟩ := List.mem_iff_getElem.mp h6
  have hl : mm_metL.length = 222 := by decide +kernel
  have h7 := mw_metA j (by omega)
  have e2 : mm_metL.getD j (0, 0, 0, 0) = (a, b, m', np) := by rw [List.getD_eq_getElem?_getD, List.getElem?_eq_getElem hj, e]; rfl
  rw [e2] at h7
  simp only [mw_ml1, Bool.and_eq_true, Bool.or_eq_true, decide_eq_true_eq, beq_iff_eq] at h7
  refine ⟨?_, h7.2⟩
  rcases h7.1 with ⟨⟨-, h9⟩, h8⟩ | h8
  · exact Or.inl ⟨h9, h8⟩
  · exact Or.inr (mw_in h8)
/-- a constructor's contract, without exceptions -/
theorem mt_met {E : mE} {Z : mZ} {l : Launch} {m : Nat} {as : List mV} {h : mH} {r : mO} {v : mV} (hM : mt_ok E Z l m as h r) (hv : r.1 = .inl v) : Met l (mw_pz m) (mt_wc m) (mt_rm m h r) (mt_Pc E Z as h) (mt_Qc E r) (mt_n r.2 - mt_n h) (r.2.2.2.2.2 - h.2.2.2.2) (mt_A E) := by
  intro p e h1 h2 h3 s mid args below h4 h5 h6 h7
  obtain ⟨n, o, a1, a2, a3, a4⟩ := hM p e h1 h2 h3 s mid args below h4 h5 h6 h7
  refine ⟨n, o, a1, a2, a3, ?_⟩
  rcases a4 with a4 | ⟨q, -, -, -, -, ⟨x, -, hx, -⟩, -⟩
  · exact a4
  · rw [hv] at hx; cases hx
theorem mt_no8 {E : mE} {h : mH} {H : Heap} {a : Nat} (hR : mt_R E h H) (a1 : a < h.2.2.1) (a2 : (h.1 a).1 = 1) (a3 : (h.1 a).2.1 = 8) : False := by
  have hat := mt_w_at (E := E) a1
  unfold mt_c at hat
  rw [if_pos a2, a3] at hat
  obtain ⟨r, hr, -⟩ := hR.1 a _ hat
  have h8 : vwCl[8]? = none := rfl
  rw [show ((8, mt_fs E 8 (h.1 a).2.2 (h.2.1 a)) : Nat × List Value).1 = 8 from rfl, h8] at hr
  cases hr
section MTI
variable {p : Program} {l : Launch} {e : Env} {R : Room} {s : State} {mid : MethodId} {args : Array Value} {below : List Frame} {meth : Method} {c : Code} {H : Heap} {locs : List Loc} {cells slots : Nat} {Q : State → Prop}
theorem mt_run {E : mE} {Z : mZ} {m pc i k m' np : Nat} {ins : Instr} {ls st : List mV} {h : mH} {q : mO} {lsR : Array Slot} (C : mt_Cx E Z m p R s mid args meth c) (hmet : m_met (m_cls m) i = some (m', np)) (hins : ins = .invokevirtual i ∧ k = 1 ∨ ins = .invokespecial i ∧ k = 2 ∧ m' ≠ 1007 ∨ ins = .invokestatic i ∧ k = 0 ∧ m' ≠ 1003 ∧ m' ≠ 1004)
    (hd : decode (m_byt m) pc = .ok (ins, 3)) (g1 : m_kd m' = k) (g2 : m_rok m m' = true) (g3 : m_sum (st.drop (if k = 0 then np else np + 1)) ≤ 8) (g4 : (if k = 0 then np else np + 1) ≤ st.length) (g5 : k = 0 ∨ m_rcv m' (st.take (np + 1)).reverse h = true)
    (hm' : m' < 282 ∨ m' = 1000 ∨ m' = 1001 ∨ m' = 1002) (hM : mt_ok E Z l m' (st.take (if k = 0 then np else np + 1)).reverse h q) (hk2 : k = 2 → ∃ v, q.1 = .inl v)
    (hL : mt_L E lsR (m_max m) ls) (hR : mt_R E h H) (hS : va_S (mt_A E) s.heap H locs) (hz : h.2.2.2.1 = 0 → H.size ≤ E.1 + h.2.2.1) (hc1 : cells + (mt_n q.2 - mt_n h) ≤ R.cells) (hc2 : slots + (q.2.2.2.2.2 - h.2.2.2.2) ≤ R.slots) :
    vx_Run p l e R s mid args below meth c H locs cells slots (mt_n q.2 - mt_n h) (q.2.2.2.2.2 - h.2.2.2.2) (F0 mid pc lsR (st.map (mt_v E))) ((st.drop (if k = 0 then np else np + 1)).map (mt_v E)) (mt_Qc E q (mt_as E (st.take (if k = 0 then np else np + 1)).reverse).toArray) (mt_XC E q) (mt_A E) := by
  obtain ⟨hC, hlk, hnm, hex, ⟨hRf, hRl⟩, hK, hrt⟩ := C
  have hts := hC.2.2.2.2
  obtain ⟨hlink, hpar⟩ := mt_metw2 hmet
  have hrok := m_rok_of g2
  have hGw : GoodIn (mt_ws m) (mt_wc m') := fun w hw => mt_good (mt_wcG hm' w hw)
  have hmr : (mt_rm m' h q).frames + 1 ≤ R.frames ∧ 8 + ((m_rom m').2.2 + 11) + (mt_rm m' h q).locals ≤ R.locals := ⟨Nat.le_trans hrok.1 hRf, Nat.le_trans hrok.2 hRl⟩
  have hW : 2 * (F0 mid pc lsR (st.map (mt_v E))).monitorRoom + (((st.drop (if k = 0 then np else np + 1)).map (mt_v E)).map fun v => v.category).sum ≤ 8 := by
    have h3 := lv_room (m := mid) (pc := pc) (ls := lsR) (rest := st.map (mt_v E)) (mt_sum8 (E := E) g3)
    omega
  have hPre : ∀ U : State, U.heap = H → s.WarmedH U.vm → mt_Pc E Z (st.take (if k = 0 then np else np + 1)).reverse h (mt_as E (st.take (if k = 0 then np else np + 1)).reverse).toArray U := mt_pre hK hS hR hz
  have hsplit : st.map (mt_v E) = ((mt_as E (st.take (if k = 0 then np else np + 1)).reverse)).reverse ++ (st.drop (if k = 0 then np else np + 1)).map (mt_v E) := by
    unfold mt_as
    rw [← List.map_reverse, List.reverse_reverse, ← List.map_append, List.take_append_drop]
  have hmax : ∀ m', m' < 283 → (m_rom m').2.2 = m_max m' := fun m' h => by rw [m_rom_lt h]
  rcases hins with ⟨rfl, rfl⟩ | ⟨rfl, rfl, hn7⟩ | ⟨rfl, rfl, hn3, hn4⟩
  · -- virtual
    have hl0 : Cond.methodLink (m_cn (m_cls m)) i (mw_pz m') ∈ lw_tbl ∧ goodWord (Cond.methodLink (m_cn (m_cls m)) i (mw_pz m')) = true := by
      rcases hlink with ⟨-, ⟨-, rfl⟩ | ⟨-, rfl⟩⟩ | hlink
      · exact absurd g1 (by decide +kernel)
      · exact absurd g1 (by decide +kernel)
      · exact hlink
    rw [if_neg (by decide)] at g3 g4 hM hW hPre hsplit ⊢
    have hlen : (st.take (np + 1)).reverse.length = np + 1 := by rw [List.length_reverse, List.length_take]; omega
    obtain ⟨v0, as', has⟩ : ∃ v0 as', (st.take (np + 1)).reverse = v0 :: as' := by
      cases hh : (st.take (np + 1)).reverse with
      | nil => rw [hh] at hlen; cases hlen
      | cons a b => exact ⟨a, b, rfl⟩
    rw [has] at hlen g5 hM hPre hsplit ⊢
    replace g5 : m_rcv m' (v0 :: as') h = true := g5.resolve_left (by decide)
    have hwC : m' < 282 ∧ m_han m' = [] := by
      rcases hm' with hm' | rfl | rfl | rfl
      · obtain ⟨-, -, -, -, -, q6⟩ := mc_okm hm'
        rcases q6 with ⟨q, -⟩ | ⟨q, q2, q3, -⟩ | ⟨q, -⟩
        · omega
        · exact ⟨hm', q3⟩
        · omega
      · exact absurd g1 (by decide)
      · exact absurd g1 (by decide)
      · exact absurd g1 (by decide)
    have hsel : Cond.instanceMethod (mw_pz m') ∈ lw_tbl ∧ goodWord (Cond.instanceMethod (mw_pz m')) = true ∧ Cond.selects (mw_pz m').cls (mw_pz m') (mw_pz m') ∈ lw_tbl ∧ goodWord (Cond.selects (mw_pz m').cls (mw_pz m') (mw_pz m')) = true := by
      obtain ⟨hm1, -⟩ := hwC
      · obtain ⟨-, -, -, -, -, q6⟩ := mc_okm hm1
        rcases q6 with ⟨q, -⟩ | ⟨q, q2, q3, q4, q5⟩ | ⟨q, -⟩
        · omega
        · have a1 := mt_insW ⟨hm1, q2⟩
          have a2 := mt_selW ⟨hm1, q2, q5⟩
          exact ⟨a1.1, a1.2, a2⟩
        · omega
    have hcode : m_cd m' = .code (mw_pz m') (m_pby m') (m_rom m').2.2 (m_prt m') := by
      obtain ⟨hm1, hh⟩ := hwC
      · have h3 : m' < 283 := by omega
        unfold m_cd m_cod m_pby m_prt
        rw [if_pos h3, hh, mw_pz_lt h3, hmax _ h3]
        simp only [show ¬ m' = 1000 by omega, show ¬ m' = 1001 by omega, show ¬ m' = 1002 by omega, if_false, if_pos h3]
    have hrecv : ∃ (b : Nat) (cellB : Cell), mt_v E v0 = .ref b ∧ H[b]? = some cellB ∧ cellB.vm.isStatics = false ∧ s.vm.findClass (mw_pz m').cls = some cellB.cls := by
      unfold m_rcv at g5
      split at g5
      · next a as9 e9 =>
        cases e9
        obtain ⟨a1, a2, a3⟩ := of_decide_eq_true g5
        have hm1 : m' < 282 := hwC.1
        obtain ⟨q1, -, -, -, -, q6⟩ := mc_okm hm1
        have hc8 : m_cls m' < 7 := by
          rcases q6 with ⟨q, -⟩ | ⟨q, q2, q3, q4, q5⟩ | ⟨q, -⟩
          · omega
          · exact q4
          · omega
        obtain ⟨b1, b2, b3⟩ := mt_cls _ hc8
        have hat := mt_w_at (E := E) a1
        unfold mt_c at hat
        rw [if_pos a2, a3] at hat
        obtain ⟨cell, w1, w2, w3⟩ := va_recv hK.1 hR.1 b1 hat
        exact ⟨_, cell, rfl, w1, w2, by rw [mw_pz_lt (by omega), q1, ← b3]; exact w3⟩
      · cases g5
    obtain ⟨b, cellB, hb, r1, r2, r3⟩ := hrecv
    have hasE : mt_as E (v0 :: as') = .ref b :: mt_as E as' := by
      unfold mt_as
      rw [List.map_cons, hb]
    rw [hasE] at hPre hsplit ⊢
    refine vx_runV hC hM (cwV np hts ?_ (by rw [← hcode]; rfl) rfl rfl ⟨rfl, (mt_notMH hm').1, (mt_notMH hm').2, hpar⟩ hmr) ⟨mt_blind, ⟨cellB, r1, r2, r3⟩, hPre⟩ rfl ?_ hL.1 ?_ hW hd ⟨hc1, hc2⟩
    · intro w hw
      unfold wsV at hw
      rcases List.mem_append.mp hw with hw | hw
      · simp only [List.mem_cons, List.not_mem_nil, or_false] at hw
        rcases hw with rfl | rfl | rfl | rfl
        · exact mt_good hl0
        · exact mt_good ⟨hsel.1, hsel.2.1⟩
        · exact mt_good hsel.2.2
        · exact mt_good (mt_iniW hm')
      · exact hGw w hw
    · unfold mt_as
      rw [List.length_map]
      simpa using hlen
    · show st.map (mt_v E) = _
      rw [hsplit]
      simp
  · -- constructor
    rw [if_neg (by decide)] at g3 g4 hM hW hPre hsplit ⊢
    have hm1 : m' < 282 := by
      rcases hm' with hm' | rfl | rfl | rfl
      · exact hm'
      all_goals exact absurd g1 (by decide)
    obtain ⟨q1, -, -, -, -, q6⟩ := mc_okm hm1
    have hx : m_sta m' = false ∧ m_han m' = [] ∧ (m_nam m').name = "<init>" ∧ m_ret m' = 0 := by
      rcases q6 with ⟨q, -⟩ | ⟨q, -⟩ | ⟨-, q⟩
      · omega
      · omega
      · exact q
    obtain ⟨x1, x2, x3, x4⟩ := hx
    have hlen : (st.take (np + 1)).reverse.length = np + 1 := by rw [List.length_reverse, List.length_take]; omega
    obtain ⟨v0, as', has⟩ : ∃ v0 as', (st.take (np + 1)).reverse = v0 :: as' := by
      cases hh : (st.take (np + 1)).reverse with
      | nil => rw [hh] at hlen; cases hlen
      | cons a b => exact ⟨a, b, rfl⟩
    rw [has] at hlen g5 hM hPre hsplit ⊢
    replace g5 : m_rcv m' (v0 :: as') h = true := g5.resolve_left (by decide)
    have hb : ∃ b : Nat, mt_v E v0 = .ref b := by
      unfold m_rcv at g5
      split at g5
      · next e9 => cases e9; exact ⟨_, rfl⟩
      · cases g5
    obtain ⟨b, hb⟩ := hb
    have hasE : mt_as E (v0 :: as') = .ref b :: mt_as E as' := by
      unfold mt_as
      rw [List.map_cons, hb]
    rw [hasE] at hPre hsplit ⊢
    have hcode : m_cd m' = .code (mw_pz m') (m_byt m') (m_max m') none := by
      have h3 : m' < 283 := by omega
      unfold m_cd m_cod m_rty
      rw [if_pos h3, x2, mw_pz_lt h3, x4]
      rfl
    obtain ⟨v, hv⟩ := hk2 rfl
    have hMet := mt_met hM hv
    have hrun : va_Run p l e R s mid args below meth c H locs cells slots (mt_n q.2 - mt_n h) (q.2.2.2.2.2 - h.2.2.2.2) (F0 mid pc lsR (st.map (mt_v E))) ((st.drop (np + 1)).map (mt_v E)) (mt_Qc E q (Value.ref b :: mt_as E as').toArray) (mt_A E) := by
      have hw9 : mt_wc m' = Cond.code (mw_pz m') (m_byt m') (m_max m') none :: lw_tbl.filter goodWord := by rw [← hcode]; rfl
      have hmr9 : (mt_rm m' h q).frames + 1 ≤ R.frames ∧ 8 + (m_max m' + 11) + (mt_rm m' h q).locals ≤ R.locals := by
        rw [← hmax m' (by omega)]
        exact hmr
      have hini := hts _ (mt_tbl (m := m) (mt_iniW (Or.inl hm1)))
      have hins := hts _ (mt_tbl (m := m) (mt_insW ⟨hm1, x1⟩))
      have hnmI : (mw_pz m').name = "<init>" := by rw [mw_pz_lt (by omega)]; exact x3
      have hlen' : (mt_as E as').length = np := by
        unfold mt_as
        rw [List.length_map]
        simpa using hlen
      have hst : (F0 mid pc lsR (st.map (mt_v E))).stack = (mt_as E as').reverse ++ Value.ref b :: (st.drop (np + 1)).map (mt_v E) := by
        show st.map (mt_v E) = _
        rw [hsplit]
        simp
      rcases hlink with ⟨h6, hnest⟩ | hl0
      · have hN : va_Nw (.methodLinkNest (m_cn (m_cls m)) i (mw_pz m') RX6) s := by
          rw [h6]
          obtain ⟨n1, n2⟩ := hK.2.2.2.1
          rcases hnest with ⟨rfl, rfl⟩ | ⟨rfl, rfl⟩
          · exact n1
          · exact n2
        exact va_runIN hC hMet ⟨va_cnB np hts hGw hw9 rfl rfl hN hini ⟨(mt_notMH (Or.inl hm1)).1, (mt_notMH (Or.inl hm1)).2, hpar⟩ hmr9, hnmI, hins⟩ ⟨mt_blind, hPre⟩ rfl hlen' hL.1 hst hW hd ⟨hc1, hc2⟩
      · exact va_runI hC hMet ⟨callB_of np hts hGw hw9 rfl rfl hini (hts _ (mt_tbl hl0)) ⟨(mt_notMH (Or.inl hm1)).1, (mt_notMH (Or.inl hm1)).2, hpar⟩ hmr9, hnmI, hins⟩ ⟨mt_blind, hPre⟩ rfl hlen' hL.1 hst hW hd ⟨hc1, hc2⟩
    exact fun T hT X => Or.inl (hrun T hT X)
  · -- static
    have hl0 : Cond.methodLink (m_cn (m_cls m)) i (mw_pz m') ∈ lw_tbl ∧ goodWord (Cond.methodLink (m_cn (m_cls m)) i (mw_pz m')) = true := by
      rcases hlink with ⟨-, ⟨-, rfl⟩ | ⟨-, rfl⟩⟩ | hlink
      · exact absurd g1 (by decide +kernel)
      · exact absurd g1 (by decide +kernel)
      · exact hlink
    rw [if_pos rfl] at g3 g4 hM hW hPre hsplit ⊢
    have hwC : m' < 282 ∧ m_sta m' = true ∨ m' = 1000 ∨ m' = 1001 ∨ m' = 1002 := by
      rcases hm' with hm' | rfl | rfl | rfl
      · obtain ⟨-, -, -, -, -, q6⟩ := mc_okm hm'
        rcases q6 with ⟨q, q2⟩ | ⟨q, -⟩ | ⟨q, -⟩
        · exact Or.inl ⟨hm', q2⟩
        · omega
        · omega
      · exact Or.inr (Or.inl rfl)
      · exact Or.inr (Or.inr (Or.inl rfl))
      · exact Or.inr (Or.inr (Or.inr rfl))
    have hgw : GoodIn (mt_ws m) (va_wsS (m_cn (m_cls m)) i (mw_pz m') (mt_wc m')) := by
      intro w hw
      unfold va_wsS at hw
      rcases List.mem_append.mp hw with hw | hw
      · simp only [List.mem_cons, List.not_mem_nil, or_false] at hw
        rcases hw with rfl | rfl | rfl
        · exact mt_good hl0
        · exact mt_good (mt_staW hwC)
        · exact mt_good (mt_iniW hm')
      · exact hGw w hw
    have hlen : (mt_as E (st.take np).reverse).length = np := by
      unfold mt_as
      rw [List.length_map, List.length_reverse, List.length_take]
      omega
    have hcode : (∃ bytes maxL ret, m_cd m' = .code (mw_pz m') bytes maxL ret ∧ maxL = (m_rom m').2.2) ∨ ∃ bytes maxL ret hh, m_cd m' = .codeWith (mw_pz m') bytes maxL ret hh ∧ maxL = (m_rom m').2.2 := by
      rcases hwC with ⟨hm1, -⟩ | rfl | rfl | rfl
      · have h3 : m' < 283 := by omega
        unfold m_cd m_cod
        rw [if_pos h3, mw_pz_lt h3, hmax _ h3]
        cases m_han m' with
        | nil => exact Or.inl ⟨_, _, _, rfl, rfl⟩
        | cons a b => exact Or.inr ⟨_, _, _, _, rfl, rfl⟩
      · exact Or.inl ⟨_, _, _, rfl, rfl⟩
      · exact Or.inl ⟨_, _, _, rfl, rfl⟩
      · exact Or.inl ⟨_, _, _, rfl, rfl⟩
    rcases hcode with ⟨bytes, maxL, ret, hcode, rfl⟩ | ⟨bytes, maxL, ret, hh, hcode, rfl⟩
    · exact vx_runS hC hM (va_cwS np hts hgw (by rw [← hcode]; rfl) rfl rfl ⟨(mt_notMH hm').1, (mt_notMH hm').2, hpar⟩ hmr) ⟨mt_blind, hPre⟩ rfl hlen hL.1 hsplit hW hd ⟨hc1, hc2⟩
    · exact vx_runSX hC hM (vx_cwSW np hts hgw (by rw [← hcode]; rfl) rfl rfl ⟨(mt_notMH hm').1, (mt_notMH hm').2, hpar⟩ hmr) ⟨mt_blind, hPre⟩ rfl hlen hL.1 hsplit hW hd ⟨hc1, hc2⟩
end MTI
end
