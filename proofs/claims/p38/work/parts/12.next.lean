section
/-! The world at a callee's start; what a call promises. -/
theorem mt_fw_ok : mt_fw.all (fun w => w.onTables && w.keepsFace) = true := by decide +kernel
theorem mt_face {w : Cond} (hw : w ∈ mt_fw) {s U : State} (hW : s.WarmedH U.vm) (h : va_Nw w s) : va_Nw w U := by
  have h1 := List.all_eq_true.mp mt_fw_ok w hw
  simp only [Bool.and_eq_true] at h1
  exact va_tabs h1.1 (rfl : (s.setVm U.vm).vm = U.vm) (Cond.before_shiftedFace (args := #[]) (State.Shifted.of_warmed hW) w h1.2 h)
theorem mt_X_next {E : mE} {Z : mZ} {s U : State} {locs : List Loc} (h : mt_X E Z s s.heap) (hS : va_S (mt_A E) s.heap U.heap locs) (hW : s.WarmedH U.vm) : mt_X E Z U U.heap := by
  obtain ⟨⟨hX, hbl, hB⟩, hAO, ⟨hn1, hn2⟩, ⟨hu, hs, ⟨a1, t1⟩, ⟨a2, t2⟩, ⟨a3, t3⟩⟩, hf, hc⟩ := h
  have hvm := hW.alike
  have hb : U.heap[E.2.1]? = s.heap[E.2.1]? := hS.2.1 _ (Nat.lt_of_lt_of_le hbl hB) (Nat.not_le.mpr hbl)
  exact ⟨⟨(hX.kept hb).moved hvm, hbl, Nat.le_trans hB hS.1⟩, hAO.moved hvm, ⟨hn1.warmM hW, hn2.warmM hW⟩,
    ⟨vx_Zq.moved hvm (hu.kept hS.2.1), vx_Zq.moved hvm (hs.kept hS.2.1), ⟨a1, t1.warm hW⟩, ⟨a2, t2.warm hW⟩, ⟨a3, t3.warm hW⟩⟩,
    fun w hw => mt_face hw hW (hf w hw), fun x y hx hy hxy => (hc x y hx hy hxy).moved hvm⟩
theorem mt_K_next {E : mE} {Z : mZ} {s U : State} {locs : List Loc} (h : mt_K E Z s) (hS : va_S (mt_A E) s.heap U.heap locs) (hW : s.WarmedH U.vm) : mt_K E Z U := ⟨h.1.moved hW.alike, mt_X_next h.2 hS hW⟩
/-- the bytes, the answer, the words of a method that is called -/
def m_pby (m : Nat) : ByteArray := if m = 1000 then cX6_requireSuch else if m = 1001 then cX6_requireValid else if m = 1002 then cX6_requireNow else m_byt m
def m_prt (m : Nat) : Option FieldType := if m < 283 then m_rty m else none
def m_cd (m : Nat) : Cond := if m < 283 then m_cod m else .code (mw_pz m) (m_pby m) (m_rom m).2.2 (m_prt m)
def mt_wc (m : Nat) : List Cond := m_cd m :: lw_tbl.filter goodWord
theorem mt_wc_ws {m : Nat} (h : m < 282) : mt_wc m = mt_ws m := by unfold mt_wc m_cd mt_ws; rw [if_pos (by omega), if_neg (by omega)]; rfl
def mt_rm (m : Nat) (h : mH) (r : mO) : Room := { frames := (m_rom m).1, locals := (m_rom m).2.1, cells := mt_n r.2 - mt_n h, slots := r.2.2.2.2.2 - h.2.2.2.2 }
def mt_Pc (E : mE) (Z : mZ) (as : List mV) (h : mH) : Array Value → State → Prop := va_Pc (mt_as E as) (fun U => mt_K E Z U ∧ mt_R E h U.heap ∧ (h.2.2.2.1 = 0 → U.heap.size ≤ E.1 + h.2.2.1))
def mt_vo (E : mE) (v : mV) : Option Value := if v.1 = 9 then none else some (mt_v E v)
def mt_Qc (E : mE) (r : mO) : Array Value → State → Outcome → State → Prop := fun _ st o t => ∃ v, r.1 = .inl v ∧ o = .returned (mt_vo E v) ∧ mt_R E r.2 t.heap ∧ va_F (mt_A E) st t
def mt_XC (E : mE) (r : mO) : String → State → State → Prop := fun N st t => ∃ x, x < 3 ∧ r.1 = .inr x ∧ N = m_exn x ∧ mt_R E r.2 t.heap ∧ va_F (mt_A E) st t
/-- the call of m on as in h comes to r -/
def mt_ok (E : mE) (Z : mZ) (l : Launch) (m : Nat) (as : List mV) (h : mH) (r : mO) : Prop :=
  vx_Met l (mw_pz m) (mt_wc m) (mt_rm m h r) (mt_Pc E Z as h) (mt_Qc E r) (mt_XC E r) (mt_n r.2 - mt_n h) (r.2.2.2.2.2 - h.2.2.2.2) (mt_A E)
theorem mt_blind {E : mE} {Z : mZ} {as : List mV} {h : mH} : FrameBlind (mt_Pc E Z as h) := by
  intro a U g mk hP
  obtain ⟨h1, h2, h3, h4⟩ := hP
  exact ⟨h1, mt_K_next (U := U.calling g mk a) h2 va_S.rf (State.WarmedH.refl U), h3, h4⟩
theorem mt_pre {E : mE} {Z : mZ} {as : List mV} {h : mH} {s : State} {H : Heap} {locs : List Loc} (hK : mt_K E Z s) (hS : va_S (mt_A E) s.heap H locs) (hR : mt_R E h H) (hz : h.2.2.2.1 = 0 → H.size ≤ E.1 + h.2.2.1) : ∀ U : State, U.heap = H → s.WarmedH U.vm → mt_Pc E Z as h (mt_as E as).toArray U := by
  intro U hU hW
  subst hU
  exact ⟨rfl, mt_K_next hK hS hW, hR, hz⟩
-- facts of the methods, by program
def mc_ok (m : Nat) : Bool := decide ((m_nam m).cls = m_cn (m_cls m)) && plainName (m_nam m).cls && decide (m_cls m < 9) && decide ((m_nam m).cls ≠ "java/lang/invoke/MethodHandle") && decide ((m_nam m).cls ≠ "java/lang/invoke/VarHandle") && (if m_kd m = 0 then m_sta m else if m_kd m = 1 then !m_sta m && (m_han m).isEmpty && decide (m_cls m < 7) && decide ((m_nam m).name ≠ "<init>") else decide (m_kd m = 2) && !m_sta m && (m_han m).isEmpty && decide ((m_nam m).name = "<init>") && decide (m_ret m = 0))
theorem mc_okA : (List.range 282).all mc_ok = true := by decide +kernel
def mm_ok (r : Nat × Nat × Nat × Nat) : Bool := decide (r.2.2.1 < 282) || decide (1000 ≤ r.2.2.1 ∧ r.2.2.1 ≤ 1007)
theorem mm_okA : mm_metL.all mm_ok = true := by decide +kernel
theorem m_met_ok {cl i m' np : Nat} (h : m_met cl i = some (m', np)) : m' < 282 ∨ 1000 ≤ m' ∧ m' ≤ 1007 := by
  unfold m_met at h
  obtain ⟨r, h1, h2⟩ := Option.map_eq_some_iff.mp h
  have h6 := List.all_eq_true.mp mm_okA r (List.mem_of_find?_eq_some h1)
  obtain ⟨a, b, c, d⟩ := r
  dsimp only at h2
  cases h2
  simpa [mm_ok] using h6
theorem mw_pz_lt {m : Nat} (h : m < 283) : mw_pz m = m_nam m := by
  unfold mw_pz
  simp only [show ¬ m = 1000 by omega, show ¬ m = 1001 by omega, show ¬ m = 1002 by omega, show ¬ m = 1003 by omega, show ¬ m = 1004 by omega, show ¬ m = 1007 by omega, if_false]
theorem m_rom_lt {m : Nat} (h : m < 283) : m_rom m = (m_fra m, m_loc m, m_max m) := by unfold m_rom; rw [if_pos h]
end
