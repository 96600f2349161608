section
/-! What an instruction of the small machine may come to; its heap only grows. -/
def m_le (h h' : mH) : Prop := h.2.2.1 ≤ h'.2.2.1 ∧ h.2.2.2.1 ≤ h'.2.2.2.1 ∧ h.2.2.2.2 ≤ h'.2.2.2.2
theorem m_le.rf (h : mH) : m_le h h := ⟨Nat.le_refl _, Nat.le_refl _, Nat.le_refl _⟩
theorem m_le.tr {a b c : mH} (h1 : m_le a b) (h2 : m_le b c) : m_le a c := ⟨Nat.le_trans h1.1 h2.1, Nat.le_trans h1.2.1 h2.2.1, Nat.le_trans h1.2.2 h2.2.2⟩
/-- an instruction that is no call and no return -/
def m_pl (h : mH) (r : mR) : Prop := match r with
  | none => True
  | some (.inl s) => m_le h s.2.2.2.2
  | some (.inr _) => False
theorem m_pl_go {m pc : Nat} {ls st : List mV} {h h' : mH} (e : m_le h h') : m_pl h (m_go m pc ls st h') := e
theorem m_pl_st1 {m pc k : Nat} {ls st : List mV} {v : mV} {h : mH} : m_pl h (m_st1 m pc ls k v st h) := by
  unfold m_st1
  split
  · exact m_pl_go (m_le.rf h)
  · trivial
theorem m_pl_st2 {m pc k : Nat} {ls st : List mV} {v : mV} {h : mH} : m_pl h (m_st2 m pc ls k v st h) := by
  unfold m_st2
  split
  · exact m_pl_go (m_le.rf h)
  · trivial
theorem m_pl_jmp {m pc : Nat} {off : Int} {ls st : List mV} {h : mH} : m_pl h (m_jmp m pc off ls st h) := by
  unfold m_jmp
  split
  · exact m_pl_go (m_le.rf h)
  · trivial
theorem m_pl_br {b : Bool} {m pc : Nat} {off : Int} {ls st : List mV} {h : mH} : m_pl h (m_br b m pc off ls st h) := by
  unfold m_br
  split
  · exact m_pl_go (m_le.rf h)
  · trivial
theorem m_pl_ld {t m pc len k : Nat} {ls st : List mV} {h : mH} : m_pl h (m_ld t m pc len k ls st h) := by
  unfold m_ld
  split
  · exact m_pl_go (m_le.rf h)
  · trivial
theorem m_pl_bin {f : Int → Int → Int} {m pc : Nat} {ls st : List mV} {h : mH} : m_pl h (m_bin f m pc ls st h) := by
  unfold m_bin
  split
  · exact m_pl_go (m_le.rf h)
  · trivial
theorem m_pl_binl {f : Int → Int → Int} {m pc : Nat} {ls st : List mV} {h : mH} : m_pl h (m_binl f m pc ls st h) := by
  unfold m_binl
  split
  · exact m_pl_go (m_le.rf h)
  · trivial
theorem m_le_newc {K : mK} {n : Nat} {h : mH} : m_le h (m_newc K n h) := ⟨Nat.le_succ _, Nat.le_refl _, Nat.le_add_right _ _⟩
/-- a return or a call -/
def m_rl (ins : Instr) (m pc : Nat) (ls st : List mV) (h : mH) (r : mR) : Prop := match r with
  | none => True
  | some (.inl s) => m_le h s.2.2.2.2
  | some (.inr (.inl x)) => x.2 = h ∧ ((ins = .ireturn ∧ x.1.1 = 0 ∧ st = [x.1] ∧ (m_ret m = 1 ∨ m_ret m = 2 ∧ (w32 x.1.2 = 0 ∨ w32 x.1.2 = 1))) ∨ (ins = .lreturn ∧ x.1.1 = 1 ∧ st = [x.1] ∧ m_ret m = 3) ∨ (ins = .areturn ∧ st = [x.1] ∧ (x.1.1 = 2 ∧ m_ret m = 4 ∨ x.1.1 = 3 ∧ m_ret m = 5)) ∨ (ins = .return_ ∧ x.1 = (9, 0) ∧ st = [] ∧ m_ret m = 0))
  | some (.inr (.inr c)) => ∃ i m' np k, m_met (m_cls m) i = some (m', np) ∧ m_call m' np k m pc ls st h = some (.inr (.inr c)) ∧ (ins = .invokevirtual i ∧ k = 1 ∨ ins = .invokespecial i ∧ k = 2 ∧ m' ≠ 1007 ∨ ins = .invokestatic i ∧ k = 0 ∧ m' ≠ 1003 ∧ m' ≠ 1004)
theorem m_rl_pl {ins : Instr} {m pc : Nat} {ls st : List mV} {h : mH} {r : mR} (e : m_pl h r) : m_rl ins m pc ls st h r := by
  match r with
  | none => trivial
  | some (.inl s) => exact e
  | some (.inr _) => exact e.elim
theorem m_call_inv {m' np k m pc : Nat} {ls st : List mV} {h : mH} {x : (mV × mH) ⊕ mC} (e : m_call m' np k m pc ls st h = some (.inr x)) : (m_kd m' = k ∧ m_rok m m' = true ∧ m_sum (st.drop (if k = 0 then np else np + 1)) ≤ 8 ∧ (if k = 0 then np else np + 1) ≤ st.length ∧ (k = 0 ∨ m_rcv m' (st.take (np + 1)).reverse h = true)) ∧ x = .inr (m', (st.take (if k = 0 then np else np + 1)).reverse, h, m, pc, ls, st.drop (if k = 0 then np else np + 1)) := by
  unfold m_call at e
  by_cases c : m_kd m' = k ∧ m_rok m m' = true ∧ m_sum (st.drop (if k = 0 then np else np + 1)) ≤ 8 ∧ (if k = 0 then np else np + 1) ≤ st.length ∧ (k = 0 ∨ m_rcv m' (st.take (np + 1)).reverse h = true)
  · rw [if_pos c] at e
    exact ⟨c, (Sum.inr.inj (Option.some.inj e)).symm⟩
  · rw [if_neg c] at e; cases e
theorem m_rl_call {ins : Instr} {i m' np k m pc : Nat} {ls st : List mV} {h : mH} (h1 : m_met (m_cls m) i = some (m', np)) (h2 : ins = .invokevirtual i ∧ k = 1 ∨ ins = .invokespecial i ∧ k = 2 ∧ m' ≠ 1007 ∨ ins = .invokestatic i ∧ k = 0 ∧ m' ≠ 1003 ∧ m' ≠ 1004) : m_rl ins m pc ls st h (m_call m' np k m pc ls st h) := by
  generalize hr : m_call m' np k m pc ls st h = r
  match r with
  | none => trivial
  | some (.inl s) => exact absurd hr m_call_ni
  | some (.inr (.inl x)) =>
    unfold m_call at hr
    by_cases c : m_kd m' = k ∧ m_rok m m' = true ∧ m_sum (st.drop (if k = 0 then np else np + 1)) ≤ 8 ∧ (if k = 0 then np else np + 1) ≤ st.length ∧ (k = 0 ∨ m_rcv m' (st.take (np + 1)).reverse h = true)
    · rw [if_pos c] at hr; cases hr
    · rw [if_neg c] at hr; cases hr
  | some (.inr (.inr c)) => exact ⟨i, m', np, k, h1, hr, h2⟩
theorem m_ins_rl (Z : mZ) (ins : Instr) (m pc : Nat) (ls st : List mV) (h : mH) : m_rl ins m pc ls st h (m_ins Z ins m pc ls st h) := by
  unfold m_ins
  split
  all_goals try exact m_rl_pl m_pl_ld
  all_goals try exact m_rl_pl m_pl_bin
  all_goals try exact m_rl_pl m_pl_binl
  all_goals try exact m_rl_pl m_pl_jmp
  all_goals try exact m_rl_pl (m_pl_go (m_le.rf h))
  all_goals try trivial
  all_goals repeat' split
  all_goals first
    | trivial
    | exact m_rl_pl (m_pl_go (m_le.rf h))
    | exact m_rl_pl m_pl_st1
    | exact m_rl_pl m_pl_st2
    | exact m_rl_pl m_pl_br
    | exact m_rl_pl m_pl_jmp
    | exact m_rl_pl (m_pl_go m_le_newc)
    | exact m_rl_pl (m_pl_go ⟨Nat.le_refl _, Nat.le_refl _, Nat.le_refl _⟩)
    | exact m_rl_call (by assumption) (Or.inl ⟨rfl, rfl⟩)
    | exact m_rl_call (by assumption) (Or.inr (Or.inl ⟨rfl, rfl, by assumption⟩))
    | exact m_rl_call (by assumption) (Or.inr (Or.inr ⟨rfl, rfl, by assumption, by assumption⟩))
    | exact ⟨rfl, Or.inl ⟨rfl, rfl, rfl, by assumption⟩⟩
    | exact ⟨rfl, Or.inr (Or.inl ⟨rfl, rfl, rfl, by assumption⟩)⟩
    | exact ⟨rfl, Or.inr (Or.inr (Or.inl ⟨rfl, rfl, Or.inl ⟨rfl, by assumption⟩⟩))⟩
    | exact ⟨rfl, Or.inr (Or.inr (Or.inl ⟨rfl, rfl, Or.inr ⟨rfl, by assumption⟩⟩))⟩
    | exact ⟨rfl, Or.inr (Or.inr (Or.inr ⟨rfl, rfl, rfl, by assumption⟩))⟩
def m_sm (m : Nat) (r : mR) : Prop := match r with
  | some (.inl s) => s.1 = m
  | _ => True
theorem m_sm_go {m pc : Nat} {ls st : List mV} {h : mH} : m_sm m (m_go m pc ls st h) := rfl
theorem m_sm_st1 {m pc k : Nat} {ls st : List mV} {v : mV} {h : mH} : m_sm m (m_st1 m pc ls k v st h) := by
  unfold m_st1
  split <;> first | exact m_sm_go | trivial
theorem m_sm_st2 {m pc k : Nat} {ls st : List mV} {v : mV} {h : mH} : m_sm m (m_st2 m pc ls k v st h) := by
  unfold m_st2
  split <;> first | exact m_sm_go | trivial
theorem m_sm_jmp {m pc : Nat} {off : Int} {ls st : List mV} {h : mH} : m_sm m (m_jmp m pc off ls st h) := by
  unfold m_jmp
  split <;> first | exact m_sm_go | trivial
theorem m_sm_br {b : Bool} {m pc : Nat} {off : Int} {ls st : List mV} {h : mH} : m_sm m (m_br b m pc off ls st h) := by
  unfold m_br
  split <;> first | exact m_sm_go | trivial
theorem m_sm_ld {t m pc len k : Nat} {ls st : List mV} {h : mH} : m_sm m (m_ld t m pc len k ls st h) := by
  unfold m_ld
  split <;> first | exact m_sm_go | trivial
theorem m_sm_bin {f : Int → Int → Int} {m pc : Nat} {ls st : List mV} {h : mH} : m_sm m (m_bin f m pc ls st h) := by
  unfold m_bin
  split <;> first | exact m_sm_go | trivial
theorem m_sm_binl {f : Int → Int → Int} {m pc : Nat} {ls st : List mV} {h : mH} : m_sm m (m_binl f m pc ls st h) := by
  unfold m_binl
  split <;> first | exact m_sm_go | trivial
theorem m_sm_call {m' np k m pc : Nat} {ls st : List mV} {h : mH} : m_sm m (m_call m' np k m pc ls st h) := by
  generalize hr : m_call m' np k m pc ls st h = r
  match r with
  | none => trivial
  | some (.inl s) => exact absurd hr m_call_ni
  | some (.inr x) => trivial
theorem m_ins_sm (Z : mZ) (ins : Instr) (m pc : Nat) (ls st : List mV) (h : mH) : m_sm m (m_ins Z ins m pc ls st h) := by
  unfold m_ins
  split
  all_goals try exact m_sm_ld
  all_goals try exact m_sm_bin
  all_goals try exact m_sm_binl
  all_goals try exact m_sm_jmp
  all_goals try exact m_sm_go
  all_goals try trivial
  all_goals repeat' split
  all_goals first
    | trivial
    | exact m_sm_go
    | exact m_sm_st1
    | exact m_sm_st2
    | exact m_sm_br
    | exact m_sm_jmp
    | exact m_sm_call
theorem m_ins_same {Z : mZ} {ins : Instr} {m pc m2 pc2 : Nat} {ls st ls2 st2 : List mV} {h h2 : mH} (e : m_ins Z ins m pc ls st h = some (.inl (m2, pc2, ls2, st2, h2))) : m2 = m := by
  have h1 := m_ins_sm Z ins m pc ls st h
  rw [e] at h1
  exact h1
theorem m_prm_le {m : Nat} {as : List mV} {h : mH} {o : mO} (e : m_prm m as h = some o) : m_le h o.2 := by
  have ht : m_le h (m_thr h) := ⟨Nat.le_refl _, Nat.le_succ _, Nat.le_add_right _ _⟩
  unfold m_prm at e
  split at e
  all_goals first
    | (cases e; done)
    | (cases e; first | exact ht | exact m_le.rf h | (split <;> first | exact ht | exact m_le.rf h))
    | (split at e <;> first
        | (cases e; done)
        | (cases e; first | exact ht | exact m_le.rf h))
theorem m_cal_le {f : mS → Option mO} (ih : ∀ s o, f s = some o → m_le s.2.2.2.2 o.2) {m : Nat} {as : List mV} {h : mH} {q : mO} (e : m_cal f m as h = some q) : m_le h q.2 := by
  rcases m_cal_inv e with ⟨-, -, e1, -⟩ | ⟨-, e1⟩
  · exact ih _ _ e1
  · exact m_prm_le e1
theorem m_aft_le {f : mS → Option mO} (ih : ∀ s o, f s = some o → m_le s.2.2.2.2 o.2) {m pc : Nat} {ls rest : List mV} {q o : mO} (e : m_aft f m pc ls rest q = some o) : m_le q.2 o.2 := by
  obtain ⟨v | E, h'⟩ := q
  · exact ih _ _ e
  · simp only [m_aft] at e
    split at e
    · split at e
      · cases e; exact m_le.rf _
      · cases e
    · split at e
      · exact ih _ _ e
      · cases e
theorem m_ev_le {Z : mZ} : ∀ (n : Nat) (s : mS) (o : mO), m_ev Z n s = some o → m_le s.2.2.2.2 o.2 := by
  intro n
  induction n with
  | zero => intro s o e; cases e
  | succ n ih =>
    intro s o e
    have e : m_ev1 Z (m_ev Z n) s = some o := e
    unfold m_ev1 m_step at e
    cases hd : decode (m_byt s.1) s.2.1 with
    | error x => rw [hd] at e; cases e
    | ok x =>
      obtain ⟨ins, len⟩ := x
      rw [hd] at e
      dsimp only at e
      by_cases ho : m_okl ins len = true
      · rw [if_pos ho] at e
        have hr := m_ins_rl Z ins s.1 s.2.1 s.2.2.1 s.2.2.2.1 s.2.2.2.2
        generalize m_ins Z ins s.1 s.2.1 s.2.2.1 s.2.2.2.1 s.2.2.2.2 = r at e hr
        match r with
        | none => cases e
        | some (.inl s') => exact m_le.tr hr (ih _ _ e)
        | some (.inr (.inl x)) => cases e; rw [← hr.1]; exact m_le.rf _
        | some (.inr (.inr c)) =>
          obtain ⟨i, m', np, k, h1, h2, -⟩ := hr
          obtain ⟨q, e1, e2⟩ := Option.bind_eq_some_iff.mp e
          obtain ⟨-, h3⟩ := m_call_inv h2
          obtain rfl := Sum.inr.inj h3
          exact m_le.tr (m_cal_le ih e1) (m_aft_le ih e2)
      · rw [if_neg ho] at e; cases e
end
