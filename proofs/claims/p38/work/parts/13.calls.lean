section
/-! Entry of a method, its end, its calls. -/
theorem mc_okm {m : Nat} (h : m < 282) : (m_nam m).cls = m_cn (m_cls m) ∧ plainName (m_nam m).cls = true ∧ m_cls m < 9 ∧ (m_nam m).cls ≠ "java/lang/invoke/MethodHandle" ∧ (m_nam m).cls ≠ "java/lang/invoke/VarHandle" ∧ (m_kd m = 0 ∧ m_sta m = true ∨ m_kd m = 1 ∧ m_sta m = false ∧ m_han m = [] ∧ m_cls m < 7 ∧ (m_nam m).name ≠ "<init>" ∨ m_kd m = 2 ∧ m_sta m = false ∧ m_han m = [] ∧ (m_nam m).name = "<init>" ∧ m_ret m = 0) := by
  have h1 := List.all_eq_true.mp mc_okA m (List.mem_range.mpr h)
  unfold mc_ok at h1
  simp only [Bool.and_eq_true, decide_eq_true_eq] at h1
  obtain ⟨⟨⟨⟨⟨a1, a2⟩, a3⟩, a4⟩, a5⟩, a6⟩ := h1
  refine ⟨a1, a2, a3, a4, a5, ?_⟩
  by_cases k0 : m_kd m = 0
  · rw [if_pos k0] at a6
    exact Or.inl ⟨k0, a6⟩
  · rw [if_neg k0] at a6
    by_cases k1 : m_kd m = 1
    · rw [if_pos k1] at a6
      simp only [Bool.and_eq_true, decide_eq_true_eq, Bool.not_eq_true', List.isEmpty_iff] at a6
      obtain ⟨⟨⟨b1, b2⟩, b3⟩, b4⟩ := a6
      exact Or.inr (Or.inl ⟨k1, b1, b2, b3, b4⟩)
    · rw [if_neg k1] at a6
      simp only [Bool.and_eq_true, decide_eq_true_eq, Bool.not_eq_true', List.isEmpty_iff] at a6
      obtain ⟨⟨⟨⟨b0, b1⟩, b2⟩, b3⟩, b4⟩ := a6
      exact Or.inr (Or.inr ⟨b0, b1, b2, b3, b4⟩)
/-- the small machine's runs of n steps at most are the machine's -/
def mt_Wn (E : mE) (Z : mZ) (l : Launch) (n : Nat) : Prop :=
  ∀ (m pc : Nat) (ls st : List mV) (h : mH) (r : mO), m_ev Z n (m, pc, ls, st, h) = some r → m < 283 → (m = 282 → ∃ v, r.1 = .inl v) →
  ∀ {p : Program} {e : Env} {R : Room} {s : State} {mid : MethodId} {args : Array Value} {below : List Frame} {meth : Method} {c : Code} {H : Heap} {locs : List Loc} {cells slots : Nat} {lsR : Array Slot} (mc ms : Nat),
  mt_Cx E Z m p R s mid args meth c → mt_L E lsR (m_max m) ls → mt_R E h H → va_S (mt_A E) s.heap H locs → (h.2.2.2.1 = 0 → s.heap.size + cells ≤ E.1 + h.2.2.1) →
  cells + mt_n r.2 = mc + mt_n h → slots + r.2.2.2.2.2 = ms + h.2.2.2.2 → mc ≤ R.cells → ms ≤ R.slots →
  W p l e R s mid args below meth c H locs cells slots (vx_MQ below (mt_Qc E r) (mt_XC E r) args s mc ms (mt_A E)) (F0 mid pc lsR (st.map (mt_v E)))
theorem mt_inv_n {h : mH} {r : mO} (e : m_le h r.2) : mt_n h ≤ mt_n r.2 ∧ h.2.2.2.2 ≤ r.2.2.2.2.2 := ⟨Nat.add_le_add e.1 e.2.1, e.2.2⟩
theorem mt_body {E : mE} {Z : mZ} {l : Launch} {n m : Nat} {as : List mV} {h : mH} {r : mO} (IH : mt_Wn E Z l n) (hm : m < 282) (hn : (m_lay as).length ≤ m_max m) (e : m_ev Z n (m, 0, m_ent (m_max m) as, [], h) = some r) : mt_ok E Z l m as h r := by
  obtain ⟨g1, g2, g3, g4, g5, g6⟩ := mc_okm hm
  have h3 : m < 283 := by omega
  have hpz := mw_pz_lt h3
  have hrm := m_rom_lt h3
  have hle : mt_n h ≤ mt_n r.2 ∧ h.2.2.2.2 ≤ r.2.2.2.2.2 := mt_inv_n (m_ev_le _ _ _ e)
  have body : ∀ (p : Program) (e9 : Env) (s : State) (mid : MethodId) (args : Array Value) (below : List Frame) (meth : Method) (c : Code) (s₁ : State), BodyLoose p l (mw_pz m) (headSpec (mt_wc m) (mt_rm m h r)) (m_byt m) (m_max m) (m_rty m) e9 s mid args below meth c s₁ → c.maxLocals = m_max m → c.exceptionTable.toList = tableOf (m_han m) → mt_Pc E Z as h args s →
      W p l e9 (headSpec (mt_wc m) (mt_rm m h r)).room s mid args below meth c s.heap [] 0 0 (vx_MQ below (mt_Qc E r) (mt_XC E r) args s (mt_n r.2 - mt_n h) (r.2.2.2.2.2 - h.2.2.2.2) (mt_A E)) (entryFrame mid args (m_max m)) := by
    intro p e9 s mid args below meth c s₁ B hml htab hP
    obtain ⟨rfl, hK, hR, hz⟩ := hP
    have hw : ∀ w ∈ mt_ws m, w.before (mt_as E as).toArray s = true := by
      intro w hw
      exact atoms_spec (ws := mt_wc m) B.pre _ (by rw [mt_wc_ws hm]; exact hw)
    have hfc := findClass_of_methodNamed B.named
    have hnm := (name_of_methodNamed B.named B.method).1
    rw [hpz] at hfc hnm
    rw [g1] at hfc
    rw [lg_entry_eq]
    refine IH m 0 _ [] h r e h3 (fun q => absurd q (by omega)) _ _ ⟨⟨B.exec, B.bytes, hml, hfc, hw⟩, B.notSynchronized, fun q => hnm.trans q, fun _ => htab, ⟨?_, ?_⟩, hK, B.returns⟩ (mt_entry hn (lv_entry _ (by rw [← mt_lay_len]; exact hn))) hR va_S.rf hz ?_ ?_ (Nat.le_refl _) (Nat.le_refl _)
    · show m_fra m ≤ (m_rom m).1
      rw [hrm]; exact Nat.le_refl _
    · show m_loc m ≤ (m_rom m).2.1
      rw [hrm]; exact Nat.le_refl _
    · have := hle.1; omega
    · have := hle.2; omega
  have hcd : m_cd m = m_cod m := by unfold m_cd; rw [if_pos h3]
  unfold mt_ok
  cases hh : m_han m with
  | nil =>
    refine vx_ofW (ws' := lw_tbl.filter goodWord) (cc := m_byt m) (maxL := m_max m) (ret := m_rty m) (by rw [hpz]; exact g2) ?_ ?_
    · show m_cd m :: _ = _
      rw [hcd]
      unfold m_cod
      rw [hh, hpz]
    · intro p e9 s mid args below meth c s₁ B hml ht hP
      refine body p e9 s mid args below meth c s₁ B hml ?_ hP
      rw [hh]
      exact List.eq_nil_iff_forall_not_mem.mpr fun x hx => ht x hx
  | cons a b =>
    have hw : mt_wc m = Cond.codeWith (mw_pz m) (m_byt m) (m_max m) (m_rty m) (a :: b) :: lw_tbl.filter goodWord := by
      show m_cd m :: _ = _
      rw [hcd]
      unfold m_cod
      rw [hh, hpz]
    refine vx_ofWH (hh := a :: b) (ws' := lw_tbl.filter goodWord) (cc := m_byt m) (maxL := m_max m) (ret := m_rty m) (by rw [hpz]; exact g2) hw ?_
    intro p e9 s mid args below meth c s₁ B hml hP
    refine body p e9 s mid args below meth c s₁ B hml ?_ hP
    rw [hh]
    exact vx_table (x := mw_pz m) B (atoms_spec (ws := mt_wc m) B.pre _ (by rw [hw]; exact List.mem_cons_self))
section MTC
variable {p : Program} {l : Launch} {e : Env} {R : Room} {s : State} {mid : MethodId} {args : Array Value} {below : List Frame} {meth : Method} {c : Code} {H : Heap} {locs : List Loc} {cells slots : Nat} {Q : State → Prop}
theorem mt_ret {E : mE} {Z : mZ} {m pc len : Nat} {ins : Instr} {ls st : List mV} {h : mH} {x : mV × mH} {lsR : Array Slot} (C : mt_Cx E Z m p R s mid args meth c) (hd : decode (m_byt m) pc = .ok (ins, len)) (ho : m_okl ins len = true) (hm : m_rl ins m pc ls st h (some (.inr (.inl x)))) (hR : mt_R E h H) (hS : va_S (mt_A E) s.heap H locs) :
    W p l e R s mid args below meth c H locs cells slots (vx_MQ below (mt_Qc E (.inl x.1, x.2)) (mt_XC E (.inl x.1, x.2)) args s cells slots (mt_A E)) (F0 mid pc lsR (st.map (mt_v E))) := by
  obtain ⟨⟨hx, hb, hml, hown, hts⟩, hlk, hnm, hex, hRR, hK, hrt⟩ := C
  obtain ⟨v, h'⟩ := x
  obtain ⟨rfl, hm⟩ := hm
  have hq : ∀ t : State, t.heap = H → s.WarmedH t.vm → mt_Qc E (.inl v, h') args s (.returned (mt_vo E v)) t := fun t ht _ => ⟨v, rfl, rfl, by rw [ht]; exact hR, hS.F ht⟩
  have hf : ∀ q ∈ locs, mt_A E q.base := hS.2.2
  unfold m_rty at hrt
  rcases hm with ⟨rfl, hv, rfl, hr⟩ | ⟨rfl, hv, rfl, hr⟩ | ⟨rfl, rfl, hr⟩ | ⟨rfl, hv, rfl, hr⟩
  · obtain ⟨t, a⟩ := v
    cases hv
    obtain rfl : len = 1 := by simpa [m_okl] using ho
    rcases hr with hr | ⟨hr, ha⟩
    · rw [hr] at hrt
      exact vx_ret (W.iret hx hb hrt hq hf hd hlk)
    · rw [hr] at hrt
      refine vx_ret (W.zret (ty := .boolean) hx hb hrt ?_ hq hf hd hlk)
      have e1 : Int32.ofInt a = Int32.ofInt (w32 a) := by rw [← mt_ti, Int32.ofInt_toInt]
      rw [e1]
      rcases ha with ha | ha <;> (rw [ha]; rfl)
  · obtain ⟨t, a⟩ := v
    cases hv
    obtain rfl : len = 1 := by simpa [m_okl] using ho
    rw [hr] at hrt
    exact vx_ret (W.lret hx hb hrt hq hf hd hlk)
  · obtain ⟨t, a⟩ := v
    obtain rfl : len = 1 := by simpa [m_okl] using ho
    rcases hr with ⟨hv, hr⟩ | ⟨hv, hr⟩
    · rw [hr] at hrt
      cases hv
      cases a with
      | ofNat a => exact vx_ret (W.aret hx hb hrt (Or.inl ⟨_, rfl⟩) (Or.inr ⟨_, rfl⟩) hq hf hd hlk)
      | negSucc a => exact vx_ret (W.aret hx hb hrt (Or.inl ⟨_, rfl⟩) (Or.inl rfl) hq hf hd hlk)
    · rw [hr] at hrt
      cases hv
      exact vx_ret (W.aret hx hb hrt (Or.inl ⟨_, rfl⟩) (Or.inr ⟨_, rfl⟩) hq hf hd hlk)
  · cases hv
    obtain rfl : len = 1 := by simpa [m_okl] using ho
    rw [hr] at hrt
    exact vx_ret (W.vret hx hb hrt hq hf hd hlk)
/-- behind a call -/
theorem mt_callr {E : mE} {q : mO} {pc mc ms : Nat} {lsR : Array Slot} {rest st0 : List Value} {a : Array Value} (hr : vx_Run p l e R s mid args below meth c H locs cells slots mc ms (F0 mid pc lsR st0) rest (mt_Qc E q a) (mt_XC E q) (mt_A E)) (hS : va_S (mt_A E) s.heap H locs)
    (kk : ∀ (v : mV) (H1 : Heap) (locs1 : List Loc), q.1 = .inl v → mt_R E q.2 H1 → va_S (mt_A E) s.heap H1 locs1 → W p l e R s mid args below meth c H1 locs1 (cells + mc) (slots + ms) Q (F0 mid (pc + 3) lsR ((mt_vo E v).toList ++ rest)))
    (kx : ∀ (x : Nat) (ce : Cell) (q9 : Addr) (H1 : Heap) (locs1 : List Loc), q.1 = .inr x → x < 3 → mt_R E q.2 H1 → va_S (mt_A E) s.heap H1 locs1 → H1[q9]? = some ce → ce.vm = .none → s.vm.findClass (m_exn x) = some ce.cls → vx_W p l e R s mid args below meth c H1 locs1 (cells + mc) (slots + ms) Q (F0 mid pc lsR rest) q9) :
    W p l e R s mid args below meth c H locs cells slots Q (F0 mid pc lsR st0) := by
  intro T hT X
  rcases hr T hT X with ⟨v, st₀, t, T', L, h0, X', hL, e1, e2, ⟨w, hq, hv, hR, hF⟩, st⟩ | ⟨q9, st₀, t, T', L, N, ce, h0, X', hL, e1, e2, ⟨x, hx3, hq, hN, hR, hF⟩, hce, hcv, hcl, st⟩
  · cases hv
    obtain ⟨k1, k2, k3⟩ := vx_keep h0 e1 hS (fun q _ h => h) (fun q h => h) hL hF
    obtain ⟨t2, a1, b1⟩ := kk w T'.heap (locs ++ L) hq (by rw [e1]; exact hR) k3 T' rfl X'
    exact ⟨t2, st t2 a1, b1⟩
  · subst hN
    obtain ⟨k1, k2, k3⟩ := vx_keep h0 e1 hS (fun q _ h => h) (fun q h => h) hL hF
    obtain ⟨t2, a1, b1⟩ := kx x ce q9 T'.heap (locs ++ L) hq hx3 (by rw [e1]; exact hR) k3 (by rw [e1]; exact hce) hcv hcl T' rfl X'
    exact ⟨t2, st.trans a1, b1⟩
end MTC
end
