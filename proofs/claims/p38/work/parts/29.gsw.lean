section
theorem g_swk {Z : mZ} {m pc len t : Nat} {ls st : List mV} {h : mH} {a dflt lo hi k off : Int} {R : Option mO} {offs : Array Int} (hd : decode (m_byt m) pc = .ok (.tableswitch dflt lo hi offs, len)) (hk : lo ≤ k ∧ k ≤ hi) (hx : w32 a = k) (ho : offs[(k - lo).toNat]? = some off) (ht : (pc : Int) + off = (t : Int)) (kk : m_run Z (m, t, ls, st, h) = R) : m_run Z (m, pc, ls, (0, a) :: st, h) = R := by
  refine g_base hd rfl ?_ kk
  show (if _ then _ else _) = _
  rw [hx, if_neg (by omega), ho]
  dsimp only
  unfold m_jmp
  rw [ht]
  rfl
theorem g_swd {Z : mZ} {m pc len t : Nat} {ls st : List mV} {h : mH} {a dflt lo hi : Int} {R : Option mO} {offs : Array Int} (hd : decode (m_byt m) pc = .ok (.tableswitch dflt lo hi offs, len)) (hx : w32 a < lo ∨ hi < w32 a) (ht : (pc : Int) + dflt = (t : Int)) (kk : m_run Z (m, t, ls, st, h) = R) : m_run Z (m, pc, ls, (0, a) :: st, h) = R := by
  refine g_base hd rfl ?_ kk
  show (if _ then _ else _) = _
  rw [if_pos hx]
  unfold m_jmp
  rw [ht]
  rfl
end
