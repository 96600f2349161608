/-! THE CLAIM OUT OF ONE WALK OF THE LAW'S BODY. Your part is whole_start (and what it stands on); all else here is the same for every law, but numbers. -/
def R_law : String := "NetworkCentersLaw"
def lw_P (b : Addr) (xs : List Int32) (args : Array Value) (s : State) : Prop := args = #[.ref b] ∧ s.IntsAt b xs ∧ xs.length ≤ 260 ∧ (Jvm.Cond.and given_1 narrow_1).before args s = true
def lw_Q (_ : Array Value) (s : State) (o : Outcome) (t : State) : Prop := o = .returned (some (.int 1)) ∧ Framed s o t [] 619401 7243495
def lw_Z (below : List Frame) (a : Array Value) (s : State) : State → Prop := fun t => ∃ o, t.status = .running ∧ Ended t below o ∧ lw_Q a s o t
/-- the law's own end, with 1 on the stack, nothing written that was there before, its room as the claim has it -/
theorem lw_ret {p : Program} {l : Launch} {e : Env} {s : State} {m : MethodId} {below : List Frame} {meth : Method} {c : Code} {b : Nat} (hx : p.tables.exec = Jvm.exec) (hb : c.code = code) (hr : meth.sig.returnType = ret) (hlocks : meth.locks = false) {pc : Nat} {H : Heap} {ls : Array Slot} (hdg : decode code pc = .ok (.ireturn, 1)) : W p l e room_1 s m #[Value.ref b] below meth c H [] 619401 7243495 (lw_Z below #[Value.ref b] s) (F0 m pc ls [.int 1]) := by
  intro T hT X
  obtain ⟨fs, hret, hrun, hended, hW, hframe⟩ := X.leave (v := some (.int 1)) (hlocks := hlocks) (fun h => by rw [hr] at h; cases h)
  have hmeth' : T.vm.method? m = some meth := X.method'
  refine ⟨T.setFrames fs, ?_, .returned (some (.int 1)), hrun, hended, rfl, ⟨_, rfl⟩, hW, hframe⟩
  jvm_step X.here [X.here.top, hx, hb, hdg, hmeth', hr, ret, narrow_b1]
  (try refine ⟨rfl, ?_⟩); (try refine ⟨rfl, ?_⟩)
  first | (intro acts; rw [hret _ acts rfl rfl rfl]) | rw [hret _ _ rfl rfl rfl]
  exact Steps.refl _
/-- what holds at the law's entry: the machine, the code, the tables' words (any of lw_tbl by 'hts w (by decide +kernel)'), the script of L ints xs at the cell b, what the Statement gives of the start (any of its parts by flat_of_before) -/
def lw_At (p : Program) (s : State) (m : MethodId) (meth : Method) (c : Code) (b L : Nat) (xs : Nat → Int32) : Prop :=
  p.tables.exec = Jvm.exec ∧ c.code = code ∧ meth.sig.returnType = ret ∧ c.maxLocals = 10 ∧ s.vm.findClass R_law = some m.cls ∧ (∀ w ∈ lw_tbl, w.before #[Value.ref b] s = true) ∧ va_X b L xs s s.heap ∧ b < s.heap.size ∧ meth.locks = false ∧ (Jvm.Cond.and given_1 narrow_1).before #[Value.ref b] s = true
section
theorem mw_mem {w : Cond} {p : Nat × Nat} (h : mw_at p = some w) : w ∈ lw_tbl := by
  have h1 : w ∈ mw_q p.1 := List.mem_of_getElem? h
  have h2 : w ∈ tables_1 := by
    unfold tables_1
    simp only [List.mem_append]
    unfold mw_q at h1
    split at h1
    · exact Or.inl h1
    · split at h1
      · exact Or.inr (Or.inl h1)
      · split at h1
        · exact Or.inr (Or.inr (Or.inl h1))
        · split at h1
          · exact Or.inr (Or.inr (Or.inr (Or.inl h1)))
          · split at h1
            · exact Or.inr (Or.inr (Or.inr (Or.inr h1)))
            · cases h1
  exact List.mem_append_right _ h2
theorem me_ins : ∀ k, k < 7 → ∃ n, Cond.instantiable (m_cn k) n ∈ lw_tbl := by
  intro k hk
  rcases (show k = 0 ∨ k = 1 ∨ k = 2 ∨ k = 3 ∨ k = 4 ∨ k = 5 ∨ k = 6 by omega) with rfl | rfl | rfl | rfl | rfl | rfl | rfl
  · exact ⟨7, mw_mem (p := (1, 209)) (by decide +kernel)⟩
  · exact ⟨11, mw_mem (p := (1, 24)) (by decide +kernel)⟩
  · exact ⟨7, mw_mem (p := (1, 175)) (by decide +kernel)⟩
  · exact ⟨1, mw_mem (p := (1, 30)) (by decide +kernel)⟩
  · exact ⟨6, mw_mem (p := (2, 1)) (by decide +kernel)⟩
  · exact ⟨17, mw_mem (p := (1, 103)) (by decide +kernel)⟩
  · exact ⟨8, mw_mem (p := (1, 16)) (by decide +kernel)⟩
def m_h0 : mH := (fun _ => (0, 0, fun _ => 0), fun _ _ => 0, 0, 0, 0)
section ME
variable {p : Program} {l : Launch} {e : Env} {R : Room} {s : State} {mid : MethodId} {args : Array Value} {below : List Frame} {meth : Method} {c : Code} {H : Heap} {locs : List Loc} {cells slots : Nat} {Q Q' : State → Prop}
theorem me_mono {g : JFrame} (h : W p l e R s mid args below meth c H locs cells slots Q g) (hq : ∀ t, Q t → Q' t) : W p l e R s mid args below meth c H locs cells slots Q' g := by
  intro T hT X
  obtain ⟨t, a, b⟩ := h T hT X
  exact ⟨t, a, hq t b⟩
theorem me_known (hts : ∀ w ∈ lw_tbl, w.before args s = true) : ∃ D : va_G, ∀ (k : Nat) (q : vw_C), vwCl[k]? = some q → u_Kn s q.1 q.2.1 q.2.2 (D.1 k) (D.2 k) := by
  have h : ∀ k : Nat, ∃ q : ClassId × (Nat → Nat), ∀ r : vw_C, vwCl[k]? = some r → u_Kn s r.1 r.2.1 r.2.2 q.1 q.2 := by
    intro k
    by_cases hk : k < 7
    · obtain ⟨a1, a2, a3⟩ := mt_cls k hk
      obtain ⟨n, hn⟩ := me_ins k hk
      have hin : ∀ w ∈ u_ws (m_cl3 k).1 (m_cl3 k).2.1 (m_cl3 k).2.2, w ∈ lw_tbl := by
        intro w hw
        obtain ⟨j, hj, rfl⟩ := List.mem_map.mp hw
        exact (mw_in (List.all_eq_true.mp (mw_layA k hk) j hj)).1
      obtain ⟨c9, i9, hu⟩ := u_known (C := (m_cl3 k).1) (T := (m_cl3 k).2.1) (N := (m_cl3 k).2.2) (n := n) hts hin (by rw [a3]; exact hts _ hn)
      exact ⟨(c9, i9), fun r hr => by cases a1.symm.trans hr; exact hu⟩
    · exact ⟨(s.vm.classes.size, fun _ => 0), fun r hr => absurd (List.getElem?_eq_some_iff.mp hr).1 (by show ¬ k < 7; exact hk)⟩
  obtain ⟨f, hf⟩ := Classical.axiomOfChoice h
  exact ⟨(fun k => (f k).1, fun k => (f k).2), fun k q hq => hf k q hq⟩
theorem me_arr (hts : ∀ w ∈ lw_tbl, w.before args s = true) : ∃ q : ClassId × ClassId, (ArrOfT s q.1 .int ∧ va_RA s q.1 .int) ∧ (ArrOfT s q.2 (.object RX1) ∧ va_RA s q.2 (.object RX1)) := by
  obtain ⟨c1, k1, p1, a1, a2, a3⟩ := Cond.arrayClass_spec (hts _ mw_arr0.1)
  obtain ⟨comp, c3, k3, d1, d2, d3, d4, d5⟩ := Cond.arrayOver_spec (hts (.arrayOver (.object RX1)) (mw_mem (p := (1, 101)) (by decide +kernel)))
  exact ⟨(c1, c3), ⟨fun N z => ⟨(fun k h => by cases h), k1, a2, p1, a3⟩, a1⟩, fun N z => ⟨(fun k h => by cases h), k3, d3, comp, d4⟩, k3, comp, d3, d4, d1, d5⟩
theorem me_X {b L : Nat} {xs : Nat → Int32} {E : mE} (hts : ∀ w ∈ lw_tbl, w.before args s = true) (hs : ∀ c ∈ flatC (Jvm.Cond.and given_1 narrow_1), c.before args s = true) (hX : va_X b L xs s s.heap) (hbl : b < s.heap.size) (e1 : E.1 = s.heap.size) (e2 : E.2.1 = b) : mt_X E (L, xs) s s.heap := by
  have hA : ∀ a : Nat, a < s.heap.size → ¬ mt_A E a := fun a h => by
    show ¬ E.1 ≤ a
    rw [e1]
    exact Nat.not_le.mpr h
  have hex : ∀ (k : Nat) (t : String), Cond.stringRef RX6 k t ∈ lw_tbl → (Cond.exactly (.string RX6 k) "java/lang/String").before args s = true → ∃ a, vk_R RX6 k t a s := by
    intro k t h1 h2
    obtain ⟨a, -, -, -, q1, -⟩ := Cond.exactly_spec (args := args) (first := s) (o := none) (s := s) (idx := []) (t := .string RX6 k) (cls := "java/lang/String") h2
    exact ⟨a, vk_R.of (hts _ h1) q1⟩
  have hnc : ∀ x y : Nat, x < 3 → y < 3 → x ≠ y → va_Nc (m_exn x) (m_exn y) s := by
    intro x y hx hy hxy
    rcases (show x = 0 ∧ y = 1 ∨ x = 0 ∧ y = 2 ∨ x = 1 ∧ y = 0 ∨ x = 1 ∧ y = 2 ∨ x = 2 ∧ y = 0 ∨ x = 2 ∧ y = 1 by omega) with ⟨rfl, rfl⟩ | ⟨rfl, rfl⟩ | ⟨rfl, rfl⟩ | ⟨rfl, rfl⟩ | ⟨rfl, rfl⟩ | ⟨rfl, rfl⟩ <;> exact va_Nc.of (hs _ (by decide +kernel))
  refine ⟨⟨by rw [e2]; exact hX, by rw [e1, e2]; exact hbl, by rw [e1]; exact Nat.le_refl _⟩, va_AO.of (hts (.arrayOver (.object RX1)) (mw_mem (p := (1, 101)) (by decide +kernel))), ⟨va_Nw.of rfl (hts _ (mw_mem (p := (1, 104)) (by decide +kernel))), va_Nw.of rfl (hts _ (mw_mem (p := (2, 2)) (by decide +kernel)))⟩,
    ⟨vx_Zqof (hts _ (mw_mem (p := (2, 187)) (by decide +kernel))) (hts _ (mw_mem (p := (1, 8)) (by decide +kernel))) (hs _ (by decide +kernel)) hA, vx_Zqof (hts _ (mw_mem (p := (2, 189)) (by decide +kernel))) (hts _ (mw_mem (p := (1, 8)) (by decide +kernel))) (hs _ (by decide +kernel)) hA, hex _ _ (mw_mem (p := (3, 38)) (by decide +kernel)) (hs _ (by decide +kernel)), hex _ _ (mw_mem (p := (2, 201)) (by decide +kernel)) (hs _ (by decide +kernel)), hex _ _ (mw_mem (p := (3, 57)) (by decide +kernel)) (hs _ (by decide +kernel))⟩,
    ?_, hnc⟩
  intro w hw
  have h1 := List.all_eq_true.mp mt_fw_ok w hw
  simp only [Bool.and_eq_true] at h1
  have h2 : mt_fw.all (fun w => decide (w ∈ tables_1)) = true := by decide +kernel
  exact va_Nw.of h1.1 (hts w (List.mem_append_right _ (of_decide_eq_true (List.all_eq_true.mp h2 w hw))))
end ME
/-- the law comes to its end with true, where the small machine does -/
theorem mt_law {p : Program} {e : Env} {s : State} {m : MethodId} {below : List Frame} {meth : Method} {c : Code} (l : Launch) (hflags : l.flags = flags0) {b L : Nat} {xs : Nat → Int32} (C0 : lw_At p s m meth c b L xs)
    {n : Nat} {r : mO} {v : Int} (hrun : m_ev (L, xs) n (282, 0, m_ent (m_max 282) [(4, 0)], [], m_h0) = some r) (hr1 : r.1 = .inl (0, v)) (hv : w32 v = 1) (hc : mt_n r.2 ≤ 619401) (hsl : r.2.2.2.2.2 ≤ 7243495) :
    W p l e room_1 s m #[Value.ref b] below meth c s.heap [] 0 0 (lw_Z below #[Value.ref b] s) (entryFrame m ([Value.ref b] : List Value).toArray 10) := by
  obtain ⟨hx, hb, hr, hml, hown, hts, hX, hbl, hlocks, hgv⟩ := id C0
  have hs := flat_of_before _ hgv
  have hl : l.stackTraces = false := by unfold Launch.stackTraces; rw [hflags]; decide +kernel
  obtain ⟨D, hD⟩ := me_known hts
  obtain ⟨⟨c1, c3⟩, r1, r3⟩ := me_arr hts
  obtain ⟨E, hE⟩ : ∃ E : mE, E = (s.heap.size, b, (fun _ => 0), (c1, c1, c3), D) := ⟨_, rfl⟩
  have hK : mt_K E (L, xs) s := by
    refine ⟨⟨by rw [hE]; exact hD, ?_⟩, me_X hts hs hX hbl (by rw [hE]) (by rw [hE])⟩
    intro k q hq
    rw [hE] at hq
    match k, hq with
    | 0, hq => cases hq; exact r1
    | 1, hq => cases hq; exact r3
    | k + 2, hq => exact absurd (List.getElem?_eq_some_iff.mp hq).1 (by simp [mt_tys])
  have hC : mt_Cx E (L, xs) 282 p room_1 s m #[Value.ref b] meth c := by
    refine ⟨⟨hx, hb, hml, hown, ?_⟩, hlocks, fun q => absurd q (by decide +kernel), fun q => absurd rfl q, ⟨by decide, by decide⟩, hK, hr⟩
    intro w hw
    exact hts w (List.mem_filter.mp (show w ∈ lw_tbl.filter goodWord from hw)).1
  have hR : mt_R E m_h0 s.heap := ⟨fun k q hq => by simp [mt_w, m_h0] at hq, ⟨fun i j p q h => by simp [mt_w, m_h0] at h, fun k q h => by simp [mt_w, m_h0] at h⟩⟩
  have has : mt_as E [(4, 0)] = [Value.ref b] := by rw [hE]; rfl
  rw [lg_entry_eq]
  have hL : mt_L E ((lg_sl ([Value.ref b]) ++ List.replicate (10 - (lg_sl ([Value.ref b])).length) Slot.unset).toArray) (m_max 282) (m_ent (m_max 282) [(4, 0)]) := by
    have h1 := mt_entry (E := E) (as := [(4, 0)]) (n := m_max 282) (by decide) (lv_entry _ (by rw [← mt_lay_len]; decide))
    rw [has] at h1
    exact h1
  have hW := mt_WA (E := E) (Z := (L, xs)) hl n 282 0 _ [] m_h0 r hrun (by decide) (fun _ => ⟨_, hr1⟩) (p := p) (e := e) (R := room_1) (s := s) (mid := m) (args := #[Value.ref b]) (below := below) (meth := meth) (c := c) (H := s.heap) (locs := []) (cells := 0) (slots := 0) (mt_n r.2) r.2.2.2.2.2 hC hL hR va_S.rf (fun _ => by rw [hE]; exact Nat.le_refl _) (by show 0 + mt_n r.2 = mt_n r.2 + 0; omega) (by show 0 + _ = _ + 0; omega) hc hsl
  refine me_mono hW ?_
  rintro t ⟨o, h1, h2, h3⟩
  refine ⟨o, h1, h2, ?_⟩
  rcases h3 with ⟨⟨v9, q1, rfl, -, -⟩, Lc, ⟨f1, f2, f3⟩, f4⟩ | ⟨q, -, N, ce, L9, ⟨x, -, hx9, -⟩, -⟩
  · rw [hr1] at q1
    cases q1
    have e9 : mt_vo E (0, v) = some (.int 1) := by
      show some (Value.int (Int32.ofInt v)) = _
      rw [show Int32.ofInt v = Int32.ofInt (w32 v) by rw [← mt_ti, Int32.ofInt_toInt], hv]
      rfl
    rw [e9] at f1 ⊢
    refine ⟨rfl, f1, f2, f3.weaken (fun y hy hlt => ?_) hc hsl⟩
    have := f4 y hy
    rw [hE] at this
    exact absurd hlt (Nat.not_lt.mpr this)
  · rw [hr1] at hx9
    cases hx9
end
