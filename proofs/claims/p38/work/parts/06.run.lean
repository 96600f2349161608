/-! Runs without fuel. -/
theorem m_chk_some {m : Nat} {o : Option mO} {r : mO} (e : m_chk m o = some r) : o = some r ∧ ∀ x, r.1 = .inr x → m_kd m ≠ 2 := by
  match o with
  | none => cases e
  | some (.inl v, h) => cases e; exact ⟨rfl, fun x q => by cases q⟩
  | some (.inr E, h) =>
    unfold m_chk at e
    dsimp only at e
    by_cases k : m_kd m = 2
    · rw [if_pos k] at e; cases e
    · rw [if_neg k] at e; cases e; exact ⟨rfl, fun _ _ => k⟩
theorem m_chk_of {m : Nat} {o : Option mO} {r : mO} (e : o = some r) (h : ∀ x, r.1 = .inr x → m_kd m ≠ 2) : m_chk m o = some r := by
  subst e
  obtain ⟨v | E, H⟩ := r
  · rfl
  · unfold m_chk
    dsimp only
    rw [if_neg (h E rfl)]
/-- what a call comes to -/
theorem m_cal_inv {f : mS → Option mO} {m : Nat} {as : List mV} {H : mH} {r : mO} (e : m_cal f m as H = some r) : (m < 283 ∧ (m_lay as).length ≤ m_max m ∧ f (m, 0, m_ent (m_max m) as, [], H) = some r ∧ ∀ x, r.1 = .inr x → m_kd m ≠ 2) ∨ (283 ≤ m ∧ m_prm m as H = some r) := by
  unfold m_cal at e
  by_cases q : m < 283
  · rw [if_pos q] at e
    by_cases k : (m_lay as).length ≤ m_max m
    · rw [if_pos k] at e
      exact Or.inl ⟨q, k, m_chk_some e⟩
    · rw [if_neg k] at e; cases e
  · rw [if_neg q] at e
    exact Or.inr ⟨Nat.le_of_not_lt q, e⟩
theorem m_cal_of {f : mS → Option mO} {m : Nat} {as : List mV} {H : mH} {r : mO} (q : m < 283) (k : (m_lay as).length ≤ m_max m) (e : f (m, 0, m_ent (m_max m) as, [], H) = some r) (h : ∀ x, r.1 = .inr x → m_kd m ≠ 2) : m_cal f m as H = some r := by
  unfold m_cal
  rw [if_pos q, if_pos k]
  exact m_chk_of e h
theorem m_cal_prm {f : mS → Option mO} {m : Nat} {as : List mV} {H : mH} {r : mO} (q : 283 ≤ m) (e : m_prm m as H = some r) : m_cal f m as H = some r := by
  unfold m_cal
  rw [if_neg (Nat.not_lt.mpr q)]
  exact e
theorem m_cal_mono {f g : mS → Option mO} (h : ∀ s r, f s = some r → g s = some r) {m : Nat} {as : List mV} {H : mH} {r : mO} (e : m_cal f m as H = some r) : m_cal g m as H = some r := by
  rcases m_cal_inv e with ⟨q, k, e1, e2⟩ | ⟨q, e1⟩
  · exact m_cal_of q k (h _ _ e1) e2
  · exact m_cal_prm q e1
theorem m_aft_mono {f g : mS → Option mO} (h : ∀ s r, f s = some r → g s = some r) {m pc : Nat} {ls rest : List mV} {q r : mO} (e : m_aft f m pc ls rest q = some r) : m_aft g m pc ls rest q = some r := by
  obtain ⟨v | E, H⟩ := q
  · exact h _ _ e
  · simp only [m_aft] at e ⊢
    cases hd : m_hdl m pc E with
    | none => rw [hd] at e; exact e
    | some k =>
      rw [hd] at e
      dsimp only at e ⊢
      cases hs : m_hst m k ls with
      | none => rw [hs] at e; cases e
      | some p => rw [hs] at e; exact h _ _ e
theorem m_ev1_mono {Z : mZ} {f g : mS → Option mO} (h : ∀ s r, f s = some r → g s = some r) {s : mS} {r : mO} (e : m_ev1 Z f s = some r) : m_ev1 Z g s = some r := by
  unfold m_ev1 at e ⊢
  match hs : m_step Z s with
  | none => rw [hs] at e; cases e
  | some (.inl s') => rw [hs] at e; exact h _ _ e
  | some (.inr (.inl r')) => rw [hs] at e; exact e
  | some (.inr (.inr (m', as, H, m, pc, ls, rest))) =>
    rw [hs] at e
    dsimp only at e ⊢
    obtain ⟨q, h1, h2⟩ := Option.bind_eq_some_iff.mp e
    exact Option.bind_eq_some_iff.mpr ⟨q, m_cal_mono h h1, m_aft_mono h h2⟩
theorem m_ev_succ {Z : mZ} : ∀ (n : Nat) (s : mS) (r : mO), m_ev Z n s = some r → m_ev Z (n + 1) s = some r := by
  intro n
  induction n with
  | zero => intro s r h; cases h
  | succ n ih => intro s r h; exact m_ev1_mono ih h
theorem m_ev_mono {Z : mZ} {n k : Nat} (h : n ≤ k) {s : mS} {r : mO} (e : m_ev Z n s = some r) : m_ev Z k s = some r := by
  induction h with
  | refl => exact e
  | step _ ih => exact m_ev_succ _ _ _ ih
theorem m_ev_det {Z : mZ} {n k : Nat} {s : mS} {r q : mO} (e : m_ev Z n s = some r) (f : m_ev Z k s = some q) : r = q := by
  have h1 := m_ev_mono (Nat.le_max_left n k) e
  have h2 := m_ev_mono (Nat.le_max_right n k) f
  rw [h1] at h2
  exact Option.some.inj h2
noncomputable def m_run (Z : mZ) (s : mS) : Option mO := by
  classical
  exact if h : ∃ r n, m_ev Z n s = some r then some (Classical.choose h) else none
theorem m_run_of {Z : mZ} {n : Nat} {s : mS} {r : mO} (e : m_ev Z n s = some r) : m_run Z s = some r := by
  have h : ∃ r n, m_ev Z n s = some r := ⟨r, n, e⟩
  unfold m_run
  rw [dif_pos h]
  obtain ⟨k, hk⟩ := Classical.choose_spec h
  rw [m_ev_det hk e]
theorem m_run_some {Z : mZ} {s : mS} {r : mO} (e : m_run Z s = some r) : ∃ n, m_ev Z n s = some r := by
  unfold m_run at e
  split at e
  · next h =>
    obtain ⟨k, hk⟩ := Classical.choose_spec h
    exact ⟨k, by rw [← Option.some.inj e]; exact hk⟩
  · cases e
theorem m_cal_run {Z : mZ} {m : Nat} {as : List mV} {H : mH} {r : mO} (e : m_cal (m_run Z) m as H = some r) : ∃ n, m_cal (m_ev Z n) m as H = some r := by
  rcases m_cal_inv e with ⟨q, k, e1, e2⟩ | ⟨q, e1⟩
  · obtain ⟨n, hn⟩ := m_run_some e1
    exact ⟨n, m_cal_of q k hn e2⟩
  · exact ⟨0, m_cal_prm q e1⟩
theorem m_aft_run {Z : mZ} {m pc : Nat} {ls rest : List mV} {q r : mO} (e : m_aft (m_run Z) m pc ls rest q = some r) : ∃ n, m_aft (m_ev Z n) m pc ls rest q = some r := by
  obtain ⟨v | E, H⟩ := q
  · exact m_run_some e
  · simp only [m_aft] at e ⊢
    cases hd : m_hdl m pc E with
    | none => rw [hd] at e; exact ⟨0, e⟩
    | some k =>
      rw [hd] at e
      dsimp only at e ⊢
      cases hs : m_hst m k ls with
      | none => rw [hs] at e; cases e
      | some p => rw [hs] at e; exact m_run_some e
theorem m_ev1_run {Z : mZ} {s : mS} {r : mO} (e : m_ev1 Z (m_run Z) s = some r) : ∃ n, m_ev1 Z (m_ev Z n) s = some r := by
  unfold m_ev1 at e ⊢
  match hs : m_step Z s with
  | none => rw [hs] at e; cases e
  | some (.inl s') => rw [hs] at e; exact m_run_some e
  | some (.inr (.inl r')) => rw [hs] at e; exact ⟨0, e⟩
  | some (.inr (.inr (m', as, H, m, pc, ls, rest))) =>
    rw [hs] at e
    dsimp only at e ⊢
    obtain ⟨q, h1, h2⟩ := Option.bind_eq_some_iff.mp e
    obtain ⟨n1, h3⟩ := m_cal_run h1
    obtain ⟨n2, h4⟩ := m_aft_run h2
    refine ⟨max n1 n2, Option.bind_eq_some_iff.mpr ⟨q, m_cal_mono (fun s r h => m_ev_mono (Nat.le_max_left n1 n2) h) h3, m_aft_mono (fun s r h => m_ev_mono (Nat.le_max_right n1 n2) h) h4⟩⟩
theorem m_run_eq (Z : mZ) (s : mS) : m_run Z s = m_ev1 Z (m_run Z) s := by
  have key : ∀ r, m_run Z s = some r ↔ m_ev1 Z (m_run Z) s = some r := by
    intro r
    constructor
    · intro h
      obtain ⟨n, hn⟩ := m_run_some h
      cases n with
      | zero => cases hn
      | succ n => exact m_ev1_mono (fun s r h => m_run_of h) hn
    · intro h
      obtain ⟨n, hn⟩ := m_ev1_run h
      exact m_run_of (n := n + 1) hn
  cases h1 : m_run Z s with
  | none =>
    cases h2 : m_ev1 Z (m_run Z) s with
    | none => rfl
    | some r => rw [(key r).mpr h2] at h1; cases h1
  | some r => exact ((key r).mp h1).symm
/-- a call, without fuel -/
noncomputable def m_cl (Z : mZ) (m : Nat) (as : List mV) (h : mH) : Option mO := m_cal (m_run Z) m as h
