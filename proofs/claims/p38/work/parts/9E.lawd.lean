section
/-! The law's start: both constructors, by calculation. -/
/-- no script on the stack -/
def l_nz (st : List mV) : Bool := st.all (fun v => v.1 != 4)
theorem m_ial1 {Z Z' : mZ} {m pc : Nat} {ls : List mV} {h : mH} {a : mV} : m_ins Z .iaload m pc ls [a] h = m_ins Z' .iaload m pc ls [a] h := by
  obtain ⟨t, v⟩ := a
  cases t <;> rfl
theorem m_iqa {Z Z' : mZ} {m pc : Nat} {ls r : List mV} {h : mH} {n : Nat} {v : Int} {b : mV} : m_ins Z .iaload m pc ls ((n + 1, v) :: b :: r) h = m_ins Z' .iaload m pc ls ((n + 1, v) :: b :: r) h := by
  match b with
  | (0, _) => exact Eq.trans (b := none) rfl rfl
  | (1, _) => exact Eq.trans (b := none) rfl rfl
  | (2, .ofNat _) => exact Eq.trans (b := none) rfl rfl
  | (2, .negSucc _) => exact Eq.trans (b := none) rfl rfl
  | (3, _) => exact Eq.trans (b := none) rfl rfl
  | (4, _) => exact Eq.trans (b := none) rfl rfl
  | (n + 5, _) => exact Eq.trans (b := none) rfl rfl
theorem m_iqb {Z Z' : mZ} {m pc : Nat} {ls r : List mV} {h : mH} {v w : Int} : m_ins Z .iaload m pc ls ((0, v) :: (0, w) :: r) h = m_ins Z' .iaload m pc ls ((0, v) :: (0, w) :: r) h := Eq.trans (b := none) rfl rfl
theorem m_iqc {Z Z' : mZ} {m pc : Nat} {ls r : List mV} {h : mH} {v w : Int} : m_ins Z .iaload m pc ls ((0, v) :: (1, w) :: r) h = m_ins Z' .iaload m pc ls ((0, v) :: (1, w) :: r) h := Eq.trans (b := none) rfl rfl
theorem m_iqd {Z Z' : mZ} {m pc : Nat} {ls r : List mV} {h : mH} {v : Int} {a : Nat} : m_ins Z .iaload m pc ls ((0, v) :: (2, .ofNat a) :: r) h = m_ins Z' .iaload m pc ls ((0, v) :: (2, .ofNat a) :: r) h := Eq.trans (b := if a < h.2.2.1 ∧ (h.1 a).1 = 2 ∧ 0 ≤ w32 v ∧ w32 v < (h.1 a).2.1 then m_go m (pc + 1) ls ((0, h.2.1 a (w32 v).toNat) :: r) h else none) rfl rfl
theorem m_iqe {Z Z' : mZ} {m pc : Nat} {ls r : List mV} {h : mH} {v : Int} {a : Nat} : m_ins Z .iaload m pc ls ((0, v) :: (2, .negSucc a) :: r) h = m_ins Z' .iaload m pc ls ((0, v) :: (2, .negSucc a) :: r) h := Eq.trans (b := none) rfl rfl
theorem m_iqf {Z Z' : mZ} {m pc : Nat} {ls r : List mV} {h : mH} {v w : Int} : m_ins Z .iaload m pc ls ((0, v) :: (3, w) :: r) h = m_ins Z' .iaload m pc ls ((0, v) :: (3, w) :: r) h := Eq.trans (b := none) rfl rfl
theorem m_iqg {Z Z' : mZ} {m pc : Nat} {ls r : List mV} {h : mH} {v w : Int} {n : Nat} : m_ins Z .iaload m pc ls ((0, v) :: (n + 5, w) :: r) h = m_ins Z' .iaload m pc ls ((0, v) :: (n + 5, w) :: r) h := Eq.trans (b := none) rfl rfl
theorem m_ial2 {Z Z' : mZ} {m pc : Nat} {ls r : List mV} {h : mH} {a b : mV} (hb : b.1 ≠ 4) : m_ins Z .iaload m pc ls (a :: b :: r) h = m_ins Z' .iaload m pc ls (a :: b :: r) h := by
  obtain ⟨t, v⟩ := a
  cases t with
  | succ n => exact m_iqa
  | zero =>
    match b, hb with
    | (0, _), _ => exact m_iqb
    | (1, _), _ => exact m_iqc
    | (2, .ofNat a), _ => exact m_iqd
    | (2, .negSucc _), _ => exact m_iqe
    | (3, _), _ => exact m_iqf
    | (4, x), hb => exact absurd rfl hb
    | (n + 5, _), _ => exact m_iqg
theorem m_ins_nz {Z Z' : mZ} {ins : Instr} {m pc : Nat} {ls st : List mV} {h : mH} (hs : l_nz st = true) : m_ins Z ins m pc ls st h = m_ins Z' ins m pc ls st h := by
  have hs : ∀ v, v ∈ st → v.1 ≠ 4 := fun v hv => by simpa using List.all_eq_true.mp hs v hv
  cases ins <;> try rfl
  · unfold m_ins
    dsimp only
    match st, hs with
    | [], _ => rfl
    | (0, _) :: _, _ => rfl
    | (1, _) :: _, _ => rfl
    | (2, .ofNat _) :: _, _ => rfl
    | (2, .negSucc _) :: _, _ => rfl
    | (3, _) :: _, _ => rfl
    | (4, x) :: _, hs => exact absurd rfl (hs (4, x) (List.mem_cons_self ..))
    | (n + 5, _) :: _, _ => rfl
  · match st, hs with
    | [], _ => rfl
    | a :: [], _ => exact m_ial1
    | a :: b :: r, hs => exact m_ial2 (hs b (List.mem_cons_of_mem _ (List.mem_cons_self ..)))
def l_z0 : mZ := (0, fun _ => 0)
/-- numbers written out before one goes on -/
def f_N {α : Type} (n : Nat) (k : Nat → α) : α := Nat.rec (k 0) (fun m _ => k (Nat.succ m)) n
def f_I {α : Type} (i : Int) (k : Int → α) : α := match i with
  | .ofNat n => f_N n (fun n => k (.ofNat n))
  | .negSucc n => f_N n (fun n => k (.negSucc n))
def f_L {α : Type} : List mV → (List mV → α) → α
  | [], k => k []
  | v :: l, k => f_N v.1 (fun t => f_I v.2 (fun x => f_L l (fun l => k ((t, x) :: l))))
def f_S {α : Type} (s : mS) (k : Nat → Nat → List mV → List mV → mH → α) : α := match s with
  | (m, pc, ls, st, K, σ, n, e, c) => f_N m (fun m => f_N pc (fun pc => f_L ls (fun ls => f_L st (fun st => f_N n (fun n => f_N e (fun e => f_N c (fun c => k m pc ls st (K, σ, n, e, c))))))))
theorem f_N_e {α : Type} {n : Nat} {k : Nat → α} : f_N n k = k n := by cases n <;> rfl
theorem f_I_e {α : Type} {i : Int} {k : Int → α} : f_I i k = k i := by
  cases i with
  | ofNat n => exact f_N_e (k := fun n => k (.ofNat n))
  | negSucc n => exact f_N_e (k := fun n => k (.negSucc n))
theorem f_L_e {α : Type} : ∀ {l : List mV} {k : List mV → α}, f_L l k = k l
  | [], _ => rfl
  | v :: l, k => by
    unfold f_L
    simp only [f_N_e, f_I_e, f_L_e]
theorem f_S_e {α : Type} {s : mS} {k : Nat → Nat → List mV → List mV → mH → α} : f_S s k = k s.1 s.2.1 s.2.2.1 s.2.2.2.1 s.2.2.2.2 := by
  obtain ⟨m, pc, ls, st, K, σ, n, e, c⟩ := s
  unfold f_S
  simp only [f_N_e, f_L_e]
def l_go (f : mS → Option mO) (m pc : Nat) (ls st : List mV) (h : mH) : Option mO := if l_nz st = true then (match decode (m_byt m) pc with
  | .ok (ins, len) => if m_okl ins len = true then (match m_ins l_z0 ins m pc ls st h with
    | none => none
    | some (.inl s') => f s'
    | some (.inr (.inl r)) => some (.inl r.1, r.2)
    | some (.inr (.inr (m', as, h, m, pc, ls, rest))) => (m_cal f m' as h).bind (m_aft f m pc ls rest)) else none
  | _ => none) else none
theorem l_go_e {f : mS → Option mO} {s : mS} : l_go f s.1 s.2.1 s.2.2.1 s.2.2.2.1 s.2.2.2.2 = if l_nz s.2.2.2.1 = true then m_ev1 l_z0 f s else none := by
  unfold l_go m_ev1 m_step
  split
  · match decode (m_byt s.1) s.2.1 with
    | .ok (ins, len) =>
      dsimp only
      by_cases c : m_okl ins len = true
      · rw [if_pos c, if_pos c]
        rfl
      · rw [if_neg c, if_neg c]
    | .error _ => rfl
  · rfl
/-- the small machine without a script -/
def l_ev (n : Nat) : mS → Option mO := Nat.rec (fun _ => none) (fun _ f s => f_S s (l_go f)) n
theorem l_ev_s {n : Nat} {s : mS} : l_ev (n + 1) s = if l_nz s.2.2.2.1 = true then m_ev1 l_z0 (l_ev n) s else none := (f_S_e (k := l_go (l_ev n))).trans l_go_e
theorem m_step_nz {Z : mZ} {s : mS} (h : l_nz s.2.2.2.1 = true) : m_step Z s = m_step l_z0 s := by
  unfold m_step
  simp only [m_ins_nz (Z' := l_z0) h]
theorem l_ev_of {Z : mZ} : ∀ (n : Nat) (s : mS) (r : mO), l_ev n s = some r → m_ev Z n s = some r
  | 0, _, _, h => nomatch h
  | n + 1, s, r, h => by
    rw [l_ev_s] at h
    by_cases c : l_nz s.2.2.2.1 = true
    · rw [if_pos c] at h
      have h2 := m_ev1_mono (l_ev_of (Z := Z) n) h
      show m_ev1 Z (m_ev Z n) s = some r
      unfold m_ev1 at h2 ⊢
      rw [m_step_nz c]
      exact h2
    · rw [if_neg c] at h
      cases h
theorem l_run_of {Z : mZ} {n : Nat} {s : mS} {r : mO} (h : l_ev n s = some r) : m_run Z s = some r := m_run_of (l_ev_of n s r h)
def l_K0 : Nat → mK := m_up (fun _ => (0, 0, fun _ => 0)) 0 (1, 6, fun _ => -1)
def l_S0 : Nat → Nat → Int := m_up (fun _ _ => 0) 0 (fun _ => 0)
end
