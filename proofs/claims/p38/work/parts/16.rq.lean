section
/-! The three methods that throw. -/
theorem mt_pKeep {E : mE} {h h' : mH} {H H1 : Heap} (hR : mt_R E h H) (he : h' = (h.1, h.2.1, h.2.2.1, h'.2.2.2)) (hq : ∀ q : Nat, q < H.size → H1[q]? = H[q]?) : mt_R E h' H1 := by
  have e : mt_w E h' = mt_w E h := by rw [he]; rfl
  unfold mt_R
  rw [e]
  exact ⟨hR.1.kept fun k q hk => hq _ (vx_lt hR.1 hk), hR.2⟩
theorem mt_rq {E : mE} {Z : mZ} {l : Launch} {x ik is ic : Nat} {y : MethodName} {cc : ByteArray} {text : String} {b : Int} {h : mH} (hl : l.stackTraces = false) (hx3 : x < 3) (hy : plainName y.cls = true) (hcls : y.cls = RX6) (hpz : mw_pz (1000 + x) = y) (hcd : m_cd (1000 + x) = .code y cc 1 none) (hrom : m_rom (1000 + x) = (6, 90, 1))
    (d0 : decode cc 0 = .ok (.iload_n 0, 1)) (d1 : decode cc 1 = .ok (.ifCond .ne 14, 3)) (d4 : decode cc 4 = .ok (.new ik, 3)) (d7 : decode cc 7 = .ok (.dup, 1)) (d8 : decode cc 8 = .ok (.ldc_w is, 3)) (d11 : decode cc 11 = .ok (.invokespecial ic, 3)) (d14 : decode cc 14 = .ok (.athrow, 1)) (d15 : decode cc 15 = .ok (.return_, 1))
    (hk : Cond.classLink RX6 ik (m_exn x) ∈ lw_tbl ∧ goodWord (Cond.classLink RX6 ik (m_exn x)) = true) (hini : Cond.initialized (m_exn x) ∈ lw_tbl ∧ goodWord (Cond.initialized (m_exn x)) = true)
    (hat : ∀ w ∈ vx_atS RX6 ic (m_exn x) m_exs, w ∈ lw_tbl) (hnf : ∀ w ∈ vx_atS RX6 ic (m_exn x) m_exs, goodWord w = false → w ∈ mt_fw) (hot : ∀ w ∈ vx_atS RX6 ic (m_exn x) m_exs, vx_ot w = true)
    (hstr : ∀ U : State, mt_X E Z U U.heap → ∃ a, vk_R RX6 is text a U) (hfit : Bundle.fit (m_exn x) = true) (hfits : ∀ n ∈ m_exs, Bundle.fit n = true) :
    mt_ok E Z l (1000 + x) [(0, b)] h (if w32 b = 0 then (.inr x, m_thr h) else (.inl (9, 0), h)) := by
  by_cases hb : w32 b = 0
  · rw [if_pos hb]
    unfold mt_ok
    refine vx_ofW (ws' := lw_tbl.filter goodWord) (cc := cc) (maxL := 1) (ret := none) (by rw [hpz]; exact hy) (by rw [hpz, ← hcd]; rfl) ?_
    intro p e9 s mid args below meth c s₁ B hml ht hP
    obtain ⟨rfl, hK, hR, hz⟩ := hP
    have hts : ∀ w, w ∈ lw_tbl ∧ goodWord w = true → w.before (mt_as E [(0, b)]).toArray s = true := fun w hw => atoms_spec (ws := mt_wc (1000 + x)) B.pre _ (List.mem_cons_of_mem _ (List.mem_filter.mpr hw))
    have hown := findClass_of_methodNamed B.named
    rw [hpz, hcls] at hown
    rw [lg_entry_eq]
    have hmc : mt_n ((.inr x, m_thr h) : mO).2 - mt_n h = 1 := by
      show h.2.2.1 + (h.2.2.2.1 + 1) - (h.2.2.1 + h.2.2.2.1) = 1
      omega
    have hms : ((.inr x, m_thr h) : mO).2.2.2.2.2 - h.2.2.2.2 = 6 := by
      show h.2.2.2.2 + 6 - h.2.2.2.2 = 6
      omega
    refine lv_iload_n (i := 0) B.exec B.bytes d0 rfl (x := Int32.ofInt b) rfl ?_
    refine lv_if_ne (tgt := 15) B.exec B.bytes d1 (by decide) (fun q => absurd ((mt_eq0 b).mpr hb) q) (fun _ => ?_)
    obtain ⟨sa, hsa⟩ := hstr s hK.2
    obtain ⟨-, -, -, ⟨hu, hn, -⟩, hfw, -⟩ := hK.2
    refine vx_throwSW (pc := 4) (A := mt_A E) (own := RX6) (cls := m_exn x) (names := m_exs) (ik := ik) (is := is) (ic := ic) (sa := sa) (text := text) B.exec B.bytes hl hown hfit hfits (hts _ hk) (hts _ hini) hsa ?_ ?_ hu hn va_S.rf hml.symm d4 d7 d8 d11 d14 (fun z hz9 => (ht z hz9).elim) ?_ ?_ ?_ ?_ B.notSynchronized ?_ (fun z hz9 => nomatch hz9) ?_ ?_
    · intro w hw
      by_cases hg : goodWord w = true
      · exact hts w ⟨hat w hw, hg⟩
      · exact va_Nw.use (by
          have h1 := List.all_eq_true.mp mt_fw_ok w (hnf w hw (by simpa using hg))
          simp only [Bool.and_eq_true] at h1
          exact h1.1) (hfw w (hnf w hw (by simpa using hg)))
    · intro w hw
      rcases List.mem_cons.mp hw with rfl | hw
      · unfold vx_ot; rw [hk.2, Bool.or_true]
      · rcases List.mem_cons.mp hw with rfl | hw
        · unfold vx_ot; rw [hini.2, Bool.or_true]
        · exact hot w hw
    · show m_exs.length + 3 < (m_rom (1000 + x)).1
      rw [hrom]; decide
    · show _ ≤ (m_rom (1000 + x)).2.1
      rw [hrom]; decide
    · show 0 + 1 ≤ mt_n ((.inr x, m_thr h) : mO).2 - mt_n h
      omega
    · show 0 + 6 ≤ ((.inr x, m_thr h) : mO).2.2.2.2.2 - h.2.2.2.2
      omega
    · intro t hvm hsz hq
      exact ⟨x, hx3, rfl, rfl, mt_pKeep hR rfl hq, hsz, fun q hq1 _ => hq q hq1⟩
    · omega
    · omega
  · rw [if_neg hb]
    unfold mt_ok
    refine vx_ofW (ws' := lw_tbl.filter goodWord) (cc := cc) (maxL := 1) (ret := none) (by rw [hpz]; exact hy) (by rw [hpz, ← hcd]; rfl) ?_
    intro p e9 s mid args below meth c s₁ B hml ht hP
    obtain ⟨rfl, hK, hR, hz⟩ := hP
    rw [lg_entry_eq]
    rw [show mt_n ((.inl (9, 0), h) : mO).2 - mt_n h = 0 from Nat.sub_self _, show ((.inl (9, 0), h) : mO).2.2.2.2.2 - h.2.2.2.2 = 0 from Nat.sub_self _]
    refine lv_iload_n (i := 0) B.exec B.bytes d0 rfl (x := Int32.ofInt b) rfl ?_
    refine lv_if_ne (tgt := 15) B.exec B.bytes d1 (by decide) (fun _ => ?_) (fun q => absurd ((mt_eq0 b).mp q) hb)
    exact vx_ret (W.vret B.exec B.bytes B.returns (fun t ht9 _ => ⟨(9, 0), rfl, rfl, by rw [ht9]; exact hR, va_S.rf.F ht9⟩) (fun z hz9 => nomatch hz9) d15 B.notSynchronized)
theorem mt_rq0 {E : mE} {Z : mZ} {l : Launch} {b : Int} {h : mH} (hl : l.stackTraces = false) : mt_ok E Z l 1000 [(0, b)] h (if w32 b = 0 then (.inr 0, m_thr h) else (.inl (9, 0), h)) :=
  mt_rq (x := 0) (ik := 290) (is := 292) (ic := 294) (y := yX6_requireSuch) (cc := cX6_requireSuch) (text := "there is no such node, edge or stretch") hl (by decide) (by decide +kernel) rfl rfl rfl rfl (by decide +kernel) (by decide +kernel) (by decide +kernel) (by decide +kernel) (by decide +kernel) (by decide +kernel) (by decide +kernel) (by decide +kernel)
    (mw_in (p := (3, 29)) (by decide +kernel)) (mw_in (p := (1, 14)) (by decide +kernel)) (fun w hw => List.mem_append_right _ (of_decide_eq_true (List.all_eq_true.mp (show (vx_atS RX6 294 (m_exn 0) m_exs).all (fun w => decide (w ∈ tables_1)) = true by decide +kernel) w hw)))
    (fun w hw hg => List.mem_append_right _ (List.mem_filter.mpr ⟨List.mem_append_left _ (List.mem_append_left _ hw), by rw [hg]; rfl⟩)) (fun w hw => List.all_eq_true.mp (show (vx_atS RX6 294 (m_exn 0) m_exs).all vx_ot = true by decide +kernel) w hw)
    (fun U hX => hX.2.2.2.1.2.2.1) (by decide +kernel) (by decide +kernel)
theorem mt_rq1 {E : mE} {Z : mZ} {l : Launch} {b : Int} {h : mH} (hl : l.stackTraces = false) : mt_ok E Z l 1001 [(0, b)] h (if w32 b = 0 then (.inr 1, m_thr h) else (.inl (9, 0), h)) :=
  mt_rq (x := 1) (ik := 297) (is := 299) (ic := 301) (y := yX6_requireValid) (cc := cX6_requireValid) (text := "an argument is out of range") hl (by decide) (by decide +kernel) rfl rfl rfl rfl (by decide +kernel) (by decide +kernel) (by decide +kernel) (by decide +kernel) (by decide +kernel) (by decide +kernel) (by decide +kernel) (by decide +kernel)
    (mw_in (p := (2, 160)) (by decide +kernel)) (mw_in (p := (1, 12)) (by decide +kernel)) (fun w hw => List.mem_append_right _ (of_decide_eq_true (List.all_eq_true.mp (show (vx_atS RX6 301 (m_exn 1) m_exs).all (fun w => decide (w ∈ tables_1)) = true by decide +kernel) w hw)))
    (fun w hw hg => List.mem_append_right _ (List.mem_filter.mpr ⟨List.mem_append_left _ (List.mem_append_right _ hw), by rw [hg]; rfl⟩)) (fun w hw => List.all_eq_true.mp (show (vx_atS RX6 301 (m_exn 1) m_exs).all vx_ot = true by decide +kernel) w hw)
    (fun U hX => hX.2.2.2.1.2.2.2.1) (by decide +kernel) (by decide +kernel)
theorem mt_rq2 {E : mE} {Z : mZ} {l : Launch} {b : Int} {h : mH} (hl : l.stackTraces = false) : mt_ok E Z l 1002 [(0, b)] h (if w32 b = 0 then (.inr 2, m_thr h) else (.inl (9, 0), h)) :=
  mt_rq (x := 2) (ik := 302) (is := 304) (ic := 306) (y := yX6_requireNow) (cc := cX6_requireNow) (text := "not in this state") hl (by decide) (by decide +kernel) rfl rfl rfl rfl (by decide +kernel) (by decide +kernel) (by decide +kernel) (by decide +kernel) (by decide +kernel) (by decide +kernel) (by decide +kernel) (by decide +kernel)
    (mw_in (p := (3, 48)) (by decide +kernel)) (mw_in (p := (1, 11)) (by decide +kernel)) (fun w hw => List.mem_append_right _ (of_decide_eq_true (List.all_eq_true.mp (show (vx_atS RX6 306 (m_exn 2) m_exs).all (fun w => decide (w ∈ tables_1)) = true by decide +kernel) w hw)))
    (fun w hw hg => List.mem_append_right _ (List.mem_filter.mpr ⟨List.mem_append_right _ hw, by rw [hg]; rfl⟩)) (fun w hw => List.all_eq_true.mp (show (vx_atS RX6 306 (m_exn 2) m_exs).all vx_ot = true by decide +kernel) w hw)
    (fun U hX => hX.2.2.2.1.2.2.2.2) (by decide +kernel) (by decide +kernel)
end
