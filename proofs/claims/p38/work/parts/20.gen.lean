section
/-! One instruction of a run; places in the heap. -/
def q_ob (K : Nat → mK) (n a ci : Nat) : Prop := a < n ∧ (K a).1 = 1 ∧ (K a).2.1 = ci
def q_ak (K : Nat → mK) (n a k : Nat) : Prop := a < n ∧ (K a).1 = k
def q_al (K : Nat → mK) (n a : Nat) : Prop := a < n ∧ ((K a).1 = 2 ∨ (K a).1 = 4)
def q_pf (K : Nat → mK) (a ci k : Nat) (v : Int) : Nat → mK := m_up K a (1, ci, m_up (K a).2.2 k v)
def q_pa (K : Nat → mK) (a k : Nat) (v : Int) : Nat → mK := m_up K a (4, (K a).2.1, m_up (K a).2.2 k v)
def q_ln (K : Nat → mK) (a : Nat) : Nat := (K a).2.1
def q_rf (K : Nat → mK) (a k : Nat) : Nat := ((K a).2.2 k).toNat
def q_rp (K : Nat → mK) (a k : Nat) : Prop := 0 ≤ (K a).2.2 k
theorem q_rf_eq {K : Nat → mK} {a k : Nat} (h : q_rp K a k) : (K a).2.2 k = ((q_rf K a k : Nat) : Int) := (Int.toNat_of_nonneg h).symm
section QG
variable {Z : mZ} {m pc len : Nat} {ls st : List mV} {h : mH} {R : Option mO} {x y a b : Int}
theorem g_base {ins : Instr} {s' : mS} (hd : decode (m_byt m) pc = .ok (ins, len)) (ho : m_okl ins len = true) (hi : m_ins Z ins m pc ls st h = some (.inl s')) (kk : m_run Z s' = R) : m_run Z (m, pc, ls, st, h) = R := by
  rw [m_run_eq]
  unfold m_ev1 m_step
  dsimp only
  rw [hd]
  dsimp only
  rw [if_pos ho, hi]
  exact kk
theorem g_ret {ins : Instr} {r : mV × mH} (hd : decode (m_byt m) pc = .ok (ins, len)) (ho : m_okl ins len = true) (hi : m_ins Z ins m pc ls st h = some (.inr (.inl r))) : m_run Z (m, pc, ls, st, h) = some (.inl r.1, r.2) := by
  rw [m_run_eq]
  unfold m_ev1 m_step
  dsimp only
  rw [hd]
  dsimp only
  rw [if_pos ho, hi]
theorem g_call {ins : Instr} {m' : Nat} {as rest : List mV} (hd : decode (m_byt m) pc = .ok (ins, len)) (ho : m_okl ins len = true) (hi : m_ins Z ins m pc ls st h = some (.inr (.inr (m', as, h, m, pc, ls, rest)))) : m_run Z (m, pc, ls, st, h) = (m_cl Z m' as h).bind (m_aft (m_run Z) m pc ls rest) := by
  rw [m_run_eq]
  unfold m_ev1 m_step
  dsimp only
  rw [hd]
  dsimp only
  rw [if_pos ho, hi]
  rfl
theorem g_ld {ins : Instr} {v : mV} (hd : decode (m_byt m) pc = .ok (ins, len)) (ho : m_okl ins len = true) (hi : m_ins Z ins m pc ls st h = some (.inl (m, pc + len, ls, v :: st, h))) (kk : m_run Z (m, pc + len, ls, v :: st, h) = R) : m_run Z (m, pc, ls, st, h) = R := g_base hd ho hi kk
theorem g_iload_n {k : Fin 4} (hd : decode (m_byt m) pc = .ok (.iload_n k, 1)) (hg : m_get ls k = (0, x)) (kk : m_run Z (m, pc + 1, ls, (0, x) :: st, h) = R) : m_run Z (m, pc, ls, st, h) = R := by
  refine g_base hd rfl ?_ kk
  simp only [m_ins, m_ld, hg, if_true]
  rfl
theorem g_iload {k : Nat} (hd : decode (m_byt m) pc = .ok (.iload k, 2)) (hg : m_get ls k = (0, x)) (kk : m_run Z (m, pc + 2, ls, (0, x) :: st, h) = R) : m_run Z (m, pc, ls, st, h) = R := by
  refine g_base hd rfl ?_ kk
  simp only [m_ins, m_ld, hg, if_true]
  rfl
theorem g_lload_n {k : Fin 4} (hd : decode (m_byt m) pc = .ok (.lload_n k, 1)) (hg : m_get ls k = (1, x)) (kk : m_run Z (m, pc + 1, ls, (1, x) :: st, h) = R) : m_run Z (m, pc, ls, st, h) = R := by
  refine g_base hd rfl ?_ kk
  simp only [m_ins, m_ld, hg, if_true]
  rfl
theorem g_lload {k : Nat} (hd : decode (m_byt m) pc = .ok (.lload k, 2)) (hg : m_get ls k = (1, x)) (kk : m_run Z (m, pc + 2, ls, (1, x) :: st, h) = R) : m_run Z (m, pc, ls, st, h) = R := by
  refine g_base hd rfl ?_ kk
  simp only [m_ins, m_ld, hg, if_true]
  rfl
theorem g_aload_n {k : Fin 4} {v : mV} (hd : decode (m_byt m) pc = .ok (.aload_n k, 1)) (hg : m_get ls k = v) (hv : v.1 = 2 ∨ v.1 = 3 ∨ v.1 = 4) (kk : m_run Z (m, pc + 1, ls, v :: st, h) = R) : m_run Z (m, pc, ls, st, h) = R := by
  refine g_base hd rfl ?_ kk
  simp only [m_ins, hg, if_pos hv]
  rfl
theorem g_aload {k : Nat} {v : mV} (hd : decode (m_byt m) pc = .ok (.aload k, 2)) (hg : m_get ls k = v) (hv : v.1 = 2 ∨ v.1 = 3 ∨ v.1 = 4) (kk : m_run Z (m, pc + 2, ls, v :: st, h) = R) : m_run Z (m, pc, ls, st, h) = R := by
  refine g_base hd rfl ?_ kk
  simp only [m_ins, hg, if_pos hv]
  rfl
theorem g_istore_n {k : Fin 4} (hd : decode (m_byt m) pc = .ok (.istore_n k, 1)) (hk : (k : Nat) < ls.length) (kk : m_run Z (m, pc + 1, m_set1 ls k (0, x), st, h) = R) : m_run Z (m, pc, ls, (0, x) :: st, h) = R := by
  refine g_base hd rfl ?_ kk
  simp only [m_ins, m_st1, if_pos hk]
  rfl
theorem g_istore {k : Nat} (hd : decode (m_byt m) pc = .ok (.istore k, 2)) (hk : k < ls.length) (kk : m_run Z (m, pc + 2, m_set1 ls k (0, x), st, h) = R) : m_run Z (m, pc, ls, (0, x) :: st, h) = R := by
  refine g_base hd rfl ?_ kk
  simp only [m_ins, m_st1, if_pos hk]
  rfl
theorem g_astore_n {k : Fin 4} {t : Nat} (ht : t = 2 ∨ t = 3) (hd : decode (m_byt m) pc = .ok (.astore_n k, 1)) (hk : (k : Nat) < ls.length) (kk : m_run Z (m, pc + 1, m_set1 ls k (t, x), st, h) = R) : m_run Z (m, pc, ls, (t, x) :: st, h) = R := by
  refine g_base hd rfl ?_ kk
  rcases ht with rfl | rfl <;> (simp only [m_ins, m_st1, if_pos hk]; rfl)
theorem g_astore {k : Nat} {t : Nat} (ht : t = 2 ∨ t = 3) (hd : decode (m_byt m) pc = .ok (.astore k, 2)) (hk : k < ls.length) (kk : m_run Z (m, pc + 2, m_set1 ls k (t, x), st, h) = R) : m_run Z (m, pc, ls, (t, x) :: st, h) = R := by
  refine g_base hd rfl ?_ kk
  rcases ht with rfl | rfl <;> (simp only [m_ins, m_st1, if_pos hk]; rfl)
theorem g_lstore_n {k : Fin 4} (hd : decode (m_byt m) pc = .ok (.lstore_n k, 1)) (hk : (k : Nat) + 1 < ls.length) (kk : m_run Z (m, pc + 1, m_set2 ls k (1, x), st, h) = R) : m_run Z (m, pc, ls, (1, x) :: st, h) = R := by
  refine g_base hd rfl ?_ kk
  simp only [m_ins, m_st2, if_pos hk]
  rfl
theorem g_lstore {k : Nat} (hd : decode (m_byt m) pc = .ok (.lstore k, 2)) (hk : k + 1 < ls.length) (kk : m_run Z (m, pc + 2, m_set2 ls k (1, x), st, h) = R) : m_run Z (m, pc, ls, (1, x) :: st, h) = R := by
  refine g_base hd rfl ?_ kk
  simp only [m_ins, m_st2, if_pos hk]
  rfl
theorem g_iinc {k : Nat} {n : Int} (hd : decode (m_byt m) pc = .ok (.iinc k n, 3)) (hg : m_get ls k = (0, x)) (hk : k < ls.length) (kk : m_run Z (m, pc + 3, m_set1 ls k (0, x + n), st, h) = R) : m_run Z (m, pc, ls, st, h) = R := by
  refine g_base hd rfl ?_ kk
  simp only [m_ins, m_st1, hg, if_true, if_pos hk]
  rfl
theorem g_jmp {off : Int} {t : Nat} (hd : decode (m_byt m) pc = .ok (.goto off, 3)) (ht : (pc : Int) + off = (t : Int)) (kk : m_run Z (m, t, ls, st, h) = R) : m_run Z (m, pc, ls, st, h) = R := by
  refine g_base hd rfl ?_ kk
  simp only [m_ins, m_jmp, ht]
  rfl
theorem g_brq {ins : Instr} {off : Int} {t : Nat} {st0 : List mV} {c : Prop} [Decidable c] (hd : decode (m_byt m) pc = .ok (ins, len)) (ho : m_okl ins len = true) (hi : m_ins Z ins m pc ls st0 h = m_br (decide c) m pc off ls st h) (ht : (pc : Int) + off = (t : Int)) : m_run Z (m, pc, ls, st0, h) = if c then m_run Z (m, t, ls, st, h) else m_run Z (m, pc + 3, ls, st, h) := by
  have e : m_br (decide c) m pc off ls st h = some (.inl (m, (if decide c = true then t else pc + 3), ls, st, h)) := by
    unfold m_br
    rw [ht]
    rfl
  rw [e] at hi
  refine g_base hd ho hi ?_
  by_cases hc : c
  · rw [if_pos (decide_eq_true hc), if_pos hc]
  · rw [if_neg (fun q => hc (of_decide_eq_true q)), if_neg hc]
theorem g_brn {ins : Instr} {off : Int} {t : Nat} {st0 : List mV} {c : Prop} [Decidable c] (hd : decode (m_byt m) pc = .ok (ins, len)) (ho : m_okl ins len = true) (hi : m_ins Z ins m pc ls st0 h = m_br (decide (¬ c)) m pc off ls st h) (ht : (pc : Int) + off = (t : Int)) : m_run Z (m, pc, ls, st0, h) = if c then m_run Z (m, pc + 3, ls, st, h) else m_run Z (m, t, ls, st, h) := by
  rw [g_brq hd ho hi ht]
  by_cases hc : c
  · rw [if_pos hc, if_neg (fun q => q hc)]
  · rw [if_neg hc, if_pos hc]
theorem g_swl {dflt : Int} {ps : Array (Int × Int)} {f : Int → Nat} (hd : decode (m_byt m) pc = .ok (.lookupswitch dflt ps, len)) (hs : (ps.toList.zip (ps.toList.drop 1)).all (fun (a, next) => a.1 < next.1) = true) (hf : ∀ x, (pc : Int) + Op.lookupswitch.offset ps.toList dflt x = ((f x : Nat) : Int)) (kk : m_run Z (m, f (w32 a), ls, st, h) = R) : m_run Z (m, pc, ls, (0, a) :: st, h) = R := by
  refine g_base hd rfl ?_ kk
  show (if _ then _ else none) = _
  rw [if_pos hs]
  unfold m_jmp
  rw [hf]
  rfl
theorem g_swt {dflt lo hi : Int} {offs : Array Int} {f : Int → Nat} (hd : decode (m_byt m) pc = .ok (.tableswitch dflt lo hi offs, len)) (hf : ∀ x, if x < lo ∨ hi < x then (pc : Int) + dflt = ((f x : Nat) : Int) else ∃ off, offs[(x - lo).toNat]? = some off ∧ (pc : Int) + off = ((f x : Nat) : Int)) (kk : m_run Z (m, f (w32 a), ls, st, h) = R) : m_run Z (m, pc, ls, (0, a) :: st, h) = R := by
  refine g_base hd rfl ?_ kk
  have h1 := hf (w32 a)
  show (if _ then _ else _) = _
  by_cases c : w32 a < lo ∨ hi < w32 a
  · rw [if_pos c] at h1 ⊢
    unfold m_jmp
    rw [h1]
    rfl
  · rw [if_neg c] at h1 ⊢
    obtain ⟨off, e1, e2⟩ := h1
    rw [e1]
    dsimp only
    unfold m_jmp
    rw [e2]
    rfl
theorem g_nul {off : Int} {r : Nat} (hd : decode (m_byt m) pc = .ok (.ifnull off, 3)) (hj : ∃ t : Nat, (pc : Int) + off = (t : Int)) (kk : m_run Z (m, pc + 3, ls, st, h) = R) : m_run Z (m, pc, ls, (2, ((r : Nat) : Int)) :: st, h) = R := by
  obtain ⟨t, ht⟩ := hj
  refine g_base hd rfl ?_ kk
  simp only [m_ins, m_br, ht]
  rw [if_neg (by simp)]
  rfl
variable {K : Nat → mK} {σ : Nat → Nat → Int} {n e s r ci f : Nat}
theorem g_getf {i : Nat} (hd : decode (m_byt m) pc = .ok (.getfield i, 3)) (hf : m_fld (m_cls m) i = some (ci, f)) (hk : f < (m_tys ci).length) (ht : m_ty ci f = 0 ∨ m_ty ci f = 3) (ho : q_ob K n r ci) (kk : m_run Z (m, pc + 3, ls, (0, σ r f) :: st, (K, σ, n, e, s)) = R) : m_run Z (m, pc, ls, (2, ((r : Nat) : Int)) :: st, (K, σ, n, e, s)) = R := by
  refine g_base hd rfl ?_ kk
  obtain ⟨o1, o2, o3⟩ := ho
  show (match m_fld (m_cls m) i with | some (ci, k) => _ | none => none) = _
  rw [hf]
  dsimp only
  rw [if_pos ⟨o1, o2, o3, hk⟩, if_neg (by rcases ht with q | q <;> omega), if_neg (by rcases ht with q | q <;> omega)]
  rfl
theorem g_getl {i : Nat} (hd : decode (m_byt m) pc = .ok (.getfield i, 3)) (hf : m_fld (m_cls m) i = some (ci, f)) (hk : f < (m_tys ci).length) (ht : m_ty ci f = 1) (ho : q_ob K n r ci) (kk : m_run Z (m, pc + 3, ls, (1, σ r f) :: st, (K, σ, n, e, s)) = R) : m_run Z (m, pc, ls, (2, ((r : Nat) : Int)) :: st, (K, σ, n, e, s)) = R := by
  refine g_base hd rfl ?_ kk
  obtain ⟨o1, o2, o3⟩ := ho
  show (match m_fld (m_cls m) i with | some (ci, k) => _ | none => none) = _
  rw [hf]
  dsimp only
  rw [if_pos ⟨o1, o2, o3, hk⟩, if_neg (by omega), if_pos ht]
  rfl
theorem g_getr {i : Nat} (hd : decode (m_byt m) pc = .ok (.getfield i, 3)) (hf : m_fld (m_cls m) i = some (ci, f)) (hk : f < (m_tys ci).length) (ht : m_ty ci f = 2) (ho : q_ob K n r ci) (hp : q_rp K r f) (kk : m_run Z (m, pc + 3, ls, (2, ((q_rf K r f : Nat) : Int)) :: st, (K, σ, n, e, s)) = R) : m_run Z (m, pc, ls, (2, ((r : Nat) : Int)) :: st, (K, σ, n, e, s)) = R := by
  rw [← q_rf_eq hp] at kk
  refine g_base hd rfl ?_ kk
  obtain ⟨o1, o2, o3⟩ := ho
  show (match m_fld (m_cls m) i with | some (ci, k) => _ | none => none) = _
  rw [hf]
  dsimp only
  rw [if_pos ⟨o1, o2, o3, hk⟩, if_pos ht]
  rfl
theorem g_putf {i : Nat} (hd : decode (m_byt m) pc = .ok (.putfield i, 3)) (hf : m_fld (m_cls m) i = some (ci, f)) (hk : f < (m_tys ci).length) (ht : m_ty ci f = 0) (ho : q_ob K n r ci) (kk : m_run Z (m, pc + 3, ls, st, (K, m_up2 σ r f x, n, e, s)) = R) : m_run Z (m, pc, ls, (0, x) :: (2, ((r : Nat) : Int)) :: st, (K, σ, n, e, s)) = R := by
  refine g_base hd rfl ?_ kk
  obtain ⟨o1, o2, o3⟩ := ho
  show (match m_fld (m_cls m) i with | some (ci, k) => _ | none => none) = _
  rw [hf]
  dsimp only
  rw [if_pos ⟨o1, o2, o3, hk⟩, if_neg (by omega), if_neg (by omega), if_pos ⟨rfl, Or.inl ht⟩]
  rfl
theorem g_putz {i : Nat} (hd : decode (m_byt m) pc = .ok (.putfield i, 3)) (hf : m_fld (m_cls m) i = some (ci, f)) (hk : f < (m_tys ci).length) (ht : m_ty ci f = 3) (ho : q_ob K n r ci) (hz : w32 x = 0 ∨ w32 x = 1) (kk : m_run Z (m, pc + 3, ls, st, (K, m_up2 σ r f x, n, e, s)) = R) : m_run Z (m, pc, ls, (0, x) :: (2, ((r : Nat) : Int)) :: st, (K, σ, n, e, s)) = R := by
  refine g_base hd rfl ?_ kk
  obtain ⟨o1, o2, o3⟩ := ho
  show (match m_fld (m_cls m) i with | some (ci, k) => _ | none => none) = _
  rw [hf]
  dsimp only
  rw [if_pos ⟨o1, o2, o3, hk⟩, if_neg (by omega), if_neg (by omega), if_pos ⟨rfl, Or.inr ⟨ht, hz⟩⟩]
  rfl
theorem g_putl {i : Nat} (hd : decode (m_byt m) pc = .ok (.putfield i, 3)) (hf : m_fld (m_cls m) i = some (ci, f)) (hk : f < (m_tys ci).length) (ht : m_ty ci f = 1) (ho : q_ob K n r ci) (kk : m_run Z (m, pc + 3, ls, st, (K, m_up2 σ r f x, n, e, s)) = R) : m_run Z (m, pc, ls, (1, x) :: (2, ((r : Nat) : Int)) :: st, (K, σ, n, e, s)) = R := by
  refine g_base hd rfl ?_ kk
  obtain ⟨o1, o2, o3⟩ := ho
  show (match m_fld (m_cls m) i with | some (ci, k) => _ | none => none) = _
  rw [hf]
  dsimp only
  rw [if_pos ⟨o1, o2, o3, hk⟩, if_neg (by omega), if_pos ht, if_pos rfl]
  rfl
theorem g_putr {i : Nat} (hd : decode (m_byt m) pc = .ok (.putfield i, 3)) (hf : m_fld (m_cls m) i = some (ci, f)) (hk : f < (m_tys ci).length) (ht : m_ty ci f = 2) (hn : (m_nam m).name = "<init>") (hc : m_cls m = ci) (ho : q_ob K n r ci) (hx : x < n) (kk : m_run Z (m, pc + 3, ls, st, (q_pf K r ci f x, σ, n, e, s)) = R) : m_run Z (m, pc, ls, (2, x) :: (2, ((r : Nat) : Int)) :: st, (K, σ, n, e, s)) = R := by
  refine g_base hd rfl ?_ kk
  obtain ⟨o1, o2, o3⟩ := ho
  show (match m_fld (m_cls m) i with | some (ci, k) => _ | none => none) = _
  rw [hf]
  dsimp only
  rw [if_pos ⟨o1, o2, o3, hk⟩, if_pos ht, if_pos ⟨rfl, hn, hc, hx⟩]
  rfl
theorem g_iald (hd : decode (m_byt m) pc = .ok (.iaload, 1)) (ho : q_ak K n r 2) (h0 : 0 ≤ w32 x) (h1 : w32 x < (q_ln K r : Int)) (kk : m_run Z (m, pc + 1, ls, (0, σ r (w32 x).toNat) :: st, (K, σ, n, e, s)) = R) : m_run Z (m, pc, ls, (0, x) :: (2, ((r : Nat) : Int)) :: st, (K, σ, n, e, s)) = R := by
  refine g_base hd rfl ?_ kk
  show (if _ then _ else none) = _
  rw [if_pos ⟨ho.1, ho.2, h0, h1⟩]
  rfl
theorem g_iast (hd : decode (m_byt m) pc = .ok (.iastore, 1)) (ho : q_ak K n r 2) (h0 : 0 ≤ w32 x) (h1 : w32 x < (q_ln K r : Int)) (kk : m_run Z (m, pc + 1, ls, st, (K, m_up2 σ r (w32 x).toNat y, n, e, s)) = R) : m_run Z (m, pc, ls, (0, y) :: (0, x) :: (2, ((r : Nat) : Int)) :: st, (K, σ, n, e, s)) = R := by
  refine g_base hd rfl ?_ kk
  show (if _ then _ else none) = _
  rw [if_pos ⟨ho.1, ho.2, h0, h1⟩]
  rfl
theorem g_aald (hd : decode (m_byt m) pc = .ok (.aaload, 1)) (ho : q_ak K n r 4) (h0 : 0 ≤ w32 x) (h1 : w32 x < (q_ln K r : Int)) (hp : q_rp K r (w32 x).toNat) (kk : m_run Z (m, pc + 1, ls, (2, ((q_rf K r (w32 x).toNat : Nat) : Int)) :: st, (K, σ, n, e, s)) = R) : m_run Z (m, pc, ls, (0, x) :: (2, ((r : Nat) : Int)) :: st, (K, σ, n, e, s)) = R := by
  rw [← q_rf_eq hp] at kk
  refine g_base hd rfl ?_ kk
  show (if _ then _ else none) = _
  rw [if_pos ⟨ho.1, ho.2, h0, h1⟩]
  rfl
theorem g_aast {v : Nat} (hd : decode (m_byt m) pc = .ok (.aastore, 1)) (ho : q_ak K n r 4) (h0 : 0 ≤ w32 x) (h1 : w32 x < (q_ln K r : Int)) (hv : q_ob K n v 1) (kk : m_run Z (m, pc + 1, ls, st, (q_pa K r (w32 x).toNat v, σ, n, e, s)) = R) : m_run Z (m, pc, ls, (2, ((v : Nat) : Int)) :: (0, x) :: (2, ((r : Nat) : Int)) :: st, (K, σ, n, e, s)) = R := by
  refine g_base hd rfl ?_ kk
  show (if _ then _ else none) = _
  rw [if_pos ⟨ho.1, ho.2, h0, h1, hv.1, hv.2.1, hv.2.2⟩]
  rfl
theorem g_alen (hd : decode (m_byt m) pc = .ok (.arraylength, 1)) (ho : q_al K n r) (kk : m_run Z (m, pc + 1, ls, (0, (q_ln K r : Int)) :: st, (K, σ, n, e, s)) = R) : m_run Z (m, pc, ls, (2, ((r : Nat) : Int)) :: st, (K, σ, n, e, s)) = R := by
  refine g_base hd rfl ?_ kk
  show (if _ then _ else none) = _
  rw [if_pos ⟨ho.1, ho.2⟩]
  rfl
theorem g_new {i : Nat} (hd : decode (m_byt m) pc = .ok (.new i, 3)) (hc : m_new (m_cls m) i = some ci) (h8 : ci < 7) (kk : m_run Z (m, pc + 3, ls, (2, ((n : Nat) : Int)) :: st, (m_up K n (1, ci, fun _ => -1), m_up σ n (fun _ => 0), n + 1, 0, s + (m_tys ci).length)) = R) : m_run Z (m, pc, ls, st, (K, σ, n, 0, s)) = R := by
  refine g_base hd rfl ?_ kk
  show (match m_new (m_cls m) i with | some ci => _ | none => none) = _
  rw [hc]
  dsimp only
  rw [if_pos ⟨rfl, h8⟩]
  rfl
theorem g_newi (hd : decode (m_byt m) pc = .ok (.newarray .int, 2)) (h0 : 0 ≤ w32 x) (h1 : w32 x ≤ 100000) (kk : m_run Z (m, pc + 2, ls, (2, ((n : Nat) : Int)) :: st, (m_up K n (2, (w32 x).toNat, fun _ => -1), m_up σ n (fun _ => 0), n + 1, 0, s + (w32 x).toNat)) = R) : m_run Z (m, pc, ls, (0, x) :: st, (K, σ, n, 0, s)) = R := by
  refine g_base hd rfl ?_ kk
  show (if _ then _ else none) = _
  rw [if_pos ⟨rfl, h0, h1⟩]
  rfl
theorem g_newq (hd : decode (m_byt m) pc = .ok (.anewarray 9, 3)) (hc : m_cls m = 6) (h0 : 0 ≤ w32 x) (h1 : w32 x ≤ 100000) (kk : m_run Z (m, pc + 3, ls, (2, ((n : Nat) : Int)) :: st, (m_up K n (4, (w32 x).toNat, fun _ => -1), m_up σ n (fun _ => 0), n + 1, 0, s + (w32 x).toNat)) = R) : m_run Z (m, pc, ls, (0, x) :: st, (K, σ, n, 0, s)) = R := by
  refine g_base hd rfl ?_ kk
  show (if _ then _ else none) = _
  rw [if_pos ⟨rfl, h0, h1, hc, rfl⟩]
  rfl
theorem g_sald (hd : decode (m_byt m) pc = .ok (.iaload, 1)) (h0 : 0 ≤ w32 x) (h1 : w32 x < (Z.1 : Int)) (kk : m_run Z (m, pc + 1, ls, (0, (Z.2 (w32 x).toNat).toInt) :: st, h) = R) : m_run Z (m, pc, ls, (0, x) :: (4, y) :: st, h) = R := by
  refine g_base hd rfl ?_ kk
  show (if _ then _ else none) = _
  rw [if_pos ⟨h0, h1⟩]
  rfl
/-- calls -/
theorem g_inv {i m' np k : Nat} {ins : Instr} {as : List mV} (hd : decode (m_byt m) pc = .ok (ins, 3)) (hs : ins = .invokevirtual i ∧ k = 1 ∨ ins = .invokespecial i ∧ k = 2 ∧ m' ≠ 1007 ∨ ins = .invokestatic i ∧ k = 0 ∧ m' ≠ 1003 ∧ m' ≠ 1004) (hm : m_met (m_cls m) i = some (m', np)) (hk : m_kd m' = k) (hr : m_rok m m' = true) (h8 : m_sum st ≤ 8) (hl : as.length = if k = 0 then np else np + 1) (hv : k = 0 ∨ m_rcv m' as h = true) : m_run Z (m, pc, ls, as.reverse ++ st, h) = (m_cl Z m' as h).bind (m_aft (m_run Z) m pc ls st) := by
  have hlr : as.reverse.length = if k = 0 then np else np + 1 := by rw [List.length_reverse]; exact hl
  have e1 : (as.reverse ++ st).take (if k = 0 then np else np + 1) = as.reverse := by rw [← hlr]; simp
  have e2 : (as.reverse ++ st).drop (if k = 0 then np else np + 1) = st := by rw [← hlr]; simp
  have hc : m_call m' np k m pc ls (as.reverse ++ st) h = some (.inr (.inr (m', as, h, m, pc, ls, st))) := by
    unfold m_call
    rw [if_pos, e1, e2, List.reverse_reverse]
    refine ⟨hk, hr, by rw [e2]; exact h8, by rw [List.length_append, hlr]; omega, ?_⟩
    rcases hv with hv | hv
    · exact Or.inl hv
    · by_cases k0 : k = 0
      · exact Or.inl k0
      · right
        rw [if_neg k0] at e1
        rw [e1, List.reverse_reverse]
        exact hv
  rcases hs with ⟨rfl, rfl⟩ | ⟨rfl, rfl, h7⟩ | ⟨rfl, rfl, h3, h4⟩
  · refine g_call hd rfl ?_
    show (match m_met (m_cls m) i with | some (m', np) => _ | none => none) = _
    rw [hm]
    exact hc
  · refine g_call hd rfl ?_
    show (match m_met (m_cls m) i with | some (m', np) => _ | none => none) = _
    rw [hm]
    dsimp only
    rw [if_neg h7]
    exact hc
  · refine g_call hd rfl ?_
    show (match m_met (m_cls m) i with | some (m', np) => _ | none => none) = _
    rw [hm]
    dsimp only
    rw [if_neg h3, if_neg h4]
    exact hc
theorem g_rcv {m' : Nat} {as : List mV} (hc : m_cls m' = ci) (ho : q_ob K n r ci) : m_rcv m' ((2, ((r : Nat) : Int)) :: as) (K, σ, n, e, s) = true := by subst hc; exact decide_eq_true ho
theorem g_max {i : Nat} (hd : decode (m_byt m) pc = .ok (.invokestatic i, 3)) (hm : m_met (m_cls m) i = some (1003, 2)) (hr : m_rok m 1003 = true) (h8 : m_sum st ≤ 8) (kk : m_run Z (m, pc + 3, ls, (0, if w32 a < w32 b then b else a) :: st, h) = R) : m_run Z (m, pc, ls, (0, b) :: (0, a) :: st, h) = R := by
  refine g_base hd rfl ?_ kk
  show (match m_met (m_cls m) i with | some (m', np) => _ | none => none) = _
  rw [hm]
  dsimp only
  rw [if_pos rfl]
  show (if _ then _ else none) = _
  rw [if_pos ⟨hr, h8⟩]
  rfl
theorem g_min {i : Nat} (hd : decode (m_byt m) pc = .ok (.invokestatic i, 3)) (hm : m_met (m_cls m) i = some (1004, 2)) (hr : m_rok m 1004 = true) (h8 : m_sum st ≤ 8) (kk : m_run Z (m, pc + 3, ls, (0, if w32 b < w32 a then b else a) :: st, h) = R) : m_run Z (m, pc, ls, (0, b) :: (0, a) :: st, h) = R := by
  refine g_base hd rfl ?_ kk
  show (match m_met (m_cls m) i with | some (m', np) => _ | none => none) = _
  rw [hm]
  dsimp only
  rw [if_neg (by decide), if_pos rfl]
  show (if _ then _ else none) = _
  rw [if_pos ⟨hr, h8⟩]
  rfl
theorem g_obj {i : Nat} (hd : decode (m_byt m) pc = .ok (.invokespecial i, 3)) (hm : m_met (m_cls m) i = some (1007, 0)) (hr : m_rok m 1007 = true) (h8 : m_sum st ≤ 8) (kk : m_run Z (m, pc + 3, ls, st, h) = R) : m_run Z (m, pc, ls, (2, ((r : Nat) : Int)) :: st, h) = R := by
  refine g_base hd rfl ?_ kk
  show (match m_met (m_cls m) i with | some (m', np) => _ | none => none) = _
  rw [hm]
  dsimp only
  rw [if_pos rfl]
  show (if _ then _ else none) = _
  rw [if_pos ⟨hr, h8⟩]
  rfl
theorem g_div (hd : decode (m_byt m) pc = .ok (.idiv, 1)) (h0 : ¬ w32 b = 0) (kk : m_run Z (m, pc + 1, ls, (0, (w32 a).tdiv (w32 b)) :: st, h) = R) : m_run Z (m, pc, ls, (0, b) :: (0, a) :: st, h) = R := by
  refine g_base hd rfl ?_ kk
  show (if _ then none else _) = _
  rw [if_neg h0]
  rfl
theorem g_rem (hd : decode (m_byt m) pc = .ok (.irem, 1)) (h0 : ¬ w32 b = 0) (kk : m_run Z (m, pc + 1, ls, (0, (w32 a).tmod (w32 b)) :: st, h) = R) : m_run Z (m, pc, ls, (0, b) :: (0, a) :: st, h) = R := by
  refine g_base hd rfl ?_ kk
  show (if _ then none else _) = _
  rw [if_neg h0]
  rfl
theorem g_ldiv (hd : decode (m_byt m) pc = .ok (.ldiv, 1)) (h0 : ¬ w64 b = 0) (kk : m_run Z (m, pc + 1, ls, (1, (w64 a).tdiv (w64 b)) :: st, h) = R) : m_run Z (m, pc, ls, (1, b) :: (1, a) :: st, h) = R := by
  refine g_base hd rfl ?_ kk
  show (if _ then none else _) = _
  rw [if_neg h0]
  rfl
theorem g_lrem (hd : decode (m_byt m) pc = .ok (.lrem, 1)) (h0 : ¬ w64 b = 0) (kk : m_run Z (m, pc + 1, ls, (1, (w64 a).tmod (w64 b)) :: st, h) = R) : m_run Z (m, pc, ls, (1, b) :: (1, a) :: st, h) = R := by
  refine g_base hd rfl ?_ kk
  show (if _ then none else _) = _
  rw [if_neg h0]
  rfl
theorem g_iret (hd : decode (m_byt m) pc = .ok (.ireturn, 1)) (hr : m_ret m = 1) : m_run Z (m, pc, ls, [(0, a)], h) = some (.inl (0, a), h) := by
  refine (g_ret (r := ((0, a), h)) hd rfl ?_).trans rfl
  show (if _ then _ else none) = _
  rw [if_pos (Or.inl hr)]
theorem g_zret (hd : decode (m_byt m) pc = .ok (.ireturn, 1)) (hr : m_ret m = 2) (hz : w32 a = 0 ∨ w32 a = 1) : m_run Z (m, pc, ls, [(0, a)], h) = some (.inl (0, a), h) := by
  refine (g_ret (r := ((0, a), h)) hd rfl ?_).trans rfl
  show (if _ then _ else none) = _
  rw [if_pos (Or.inr ⟨hr, hz⟩)]
theorem g_lret (hd : decode (m_byt m) pc = .ok (.lreturn, 1)) (hr : m_ret m = 3) : m_run Z (m, pc, ls, [(1, a)], h) = some (.inl (1, a), h) := by
  refine (g_ret (r := ((1, a), h)) hd rfl ?_).trans rfl
  show (if _ then _ else none) = _
  rw [if_pos hr]
theorem g_aret {t : Nat} (ht : t = 2 ∧ m_ret m = 4 ∨ t = 3 ∧ m_ret m = 5) (hd : decode (m_byt m) pc = .ok (.areturn, 1)) : m_run Z (m, pc, ls, [(t, a)], h) = some (.inl (t, a), h) := by
  refine (g_ret (r := ((t, a), h)) hd rfl ?_).trans rfl
  rcases ht with ⟨rfl, hr⟩ | ⟨rfl, hr⟩
  · show (if _ then _ else none) = _
    rw [if_pos hr]
  · show (if _ then _ else none) = _
    rw [if_pos hr]
theorem g_vret (hd : decode (m_byt m) pc = .ok (.return_, 1)) (hr : m_ret m = 0) : m_run Z (m, pc, ls, [], h) = some (.inl (9, 0), h) := by
  refine (g_ret (r := ((9, 0), h)) hd rfl ?_).trans rfl
  show (if _ then _ else none) = _
  rw [if_pos hr]
/-- the entry -/
theorem g_ent {as : List mV} {k : Nat} (h1 : m < 283) (hm : m_max m = k) (h2 : (m_lay as).length ≤ k) (hk : m_kd m ≠ 2) (kk : m_ent k as = ls) : m_cl Z m as h = m_run Z (m, 0, ls, [], h) := by
  subst hm
  unfold m_cl m_cal
  rw [if_pos h1, if_pos h2, kk]
  generalize m_run Z (m, 0, ls, [], h) = o
  match o with
  | none => rfl
  | some (.inl v, h) => rfl
  | some (.inr E, h) => unfold m_chk; dsimp only; rw [if_neg hk]
theorem g_enti {as : List mV} {v : mV} {h' : mH} {k : Nat} (h1 : m < 283) (hm : m_max m = k) (h2 : (m_lay as).length ≤ k) (kk : m_ent k as = ls) (hr : m_run Z (m, 0, ls, [], h) = some (.inl v, h')) : m_cl Z m as h = some (.inl v, h') := by
  subst hm
  unfold m_cl m_cal
  rw [if_pos h1, if_pos h2, kk, hr]
  rfl
theorem g_prm {as : List mV} (h1 : 283 ≤ m) : m_cl Z m as h = m_prm m as h := by
  unfold m_cl m_cal
  rw [if_neg (Nat.not_lt.mpr h1)]
theorem g_aft {v : mV} {h' : mH} {rest : List mV} : m_aft (m_run Z) m pc ls rest (.inl v, h') = m_run Z (m, pc + 3, ls, (if v.1 = 9 then rest else v :: rest), h') := rfl
theorem g_aftx {E : Nat} {h' : mH} {rest : List mV} (hh : m_han m = []) : m_aft (m_run Z) m pc ls rest (.inr E, h') = some (.inr E, h') := by
  unfold m_aft
  dsimp only
  unfold m_hdl
  rw [hh]
  rfl
end QG
end
