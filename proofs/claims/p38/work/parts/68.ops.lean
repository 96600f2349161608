section
/-! What changes a network. -/
def o_rs (n : Int) (N : Nat → Nat → Int) : Nat → Nat → Int := q_fill (q_fill (m_up2 (m_up2 (m_up2 N 0 0 n) 0 1 0) 0 2 0) 2 8 (fun _ => 1)) 4 8 (fun _ => 0)
def o_cn (a b l : Int) (N : Nat → Nat → Int) : Nat → Nat → Int := m_up2 (m_up2 (m_up2 (m_up2 N 6 (w_ne N) a) 8 (w_ne N) b) 10 (w_ne N) l) 0 1 ((w_ne N : Int) + 1)
def o_ds (e : Nat) (N : Nat → Nat → Int) : Nat → Nat → Int := w_cut e (w_rms e (w_ns N) (N, 0)).1
def o_fb (e a b : Int) (N : Nat → Nat → Int) : Nat → Nat → Int := m_up2 (m_up2 (m_up2 (m_up2 N 12 (w_ns N) e) 14 (w_ns N) a) 16 (w_ns N) b) 0 2 ((w_ns N : Int) + 1)
section
variable {N M : Nat → Nat → Int}
theorem q_rem_at {r L p j : Nat} : q_rem N r L p r j = if p ≤ j ∧ j + 1 < L then N r (j + 1) else N r j := by
  unfold q_rem
  by_cases c : p ≤ j ∧ j + 1 < L
  · rw [if_pos ⟨rfl, c⟩, if_pos c]
  · rw [if_neg (fun q => c q.2), if_neg c]
theorem w_rmS_row {p k r : Nat} (hr : r = 12 ∨ r = 14 ∨ r = 16) : w_rmS p N r k = if p ≤ k ∧ k + 1 < 6 then N r (k + 1) else N r k := by
  unfold w_rmS
  rcases hr with rfl | rfl | rfl <;> simp (disch := omega) only [m_up2_ne, q_rem_ne, q_rem_at]
theorem nf_up {r k : Nat} {v : Int} (h : q_nf N) (hk : k < q_len r) : q_nf (m_up2 N r k v) := by
  intro s j hj
  unfold m_up2
  split
  · next c => obtain ⟨rfl, rfl⟩ := c; exact absurd hk hj
  · exact h s j hj
theorem nf_fill {r L : Nat} {f : Nat → Int} (h : q_nf N) (hL : L = q_len r) : q_nf (q_fill N r L f) := by
  intro s j hj
  unfold q_fill
  split
  · next c => obtain ⟨rfl, c⟩ := c; omega
  · exact h s j hj
theorem nf_rem {r L p : Nat} (h : q_nf N) (hL : L = q_len r) : q_nf (q_rem N r L p) := by
  intro s j hj
  unfold q_rem
  split
  · next c => obtain ⟨rfl, c⟩ := c; omega
  · exact h s j hj
theorem nf_rmS {p : Nat} (h : q_nf N) : q_nf (w_rmS p N) := nf_up (nf_rem (nf_rem (nf_rem h rfl) rfl) rfl) (by decide)
theorem nf_rm1 {x : (Nat → Nat → Int) × Int} {e k : Nat} (h : q_nf x.1) (hk : k < 6) : q_nf (w_rm1 e k x).1 := by
  unfold w_rm1
  split
  · exact nf_rmS h
  · split
    · exact nf_up h (by rw [q_len2]; simpa using hk)
    · exact h
theorem nf_rms {e : Nat} : ∀ (k : Nat) (x : (Nat → Nat → Int) × Int), k ≤ 6 → q_nf x.1 → q_nf (w_rms e k x).1
  | 0, _, _, h => h
  | k + 1, x, hk, h => nf_rms k (w_rm1 e k x) (by omega) (nf_rm1 h (by omega))
theorem nf_cut {e : Nat} (h : q_nf N) : q_nf (w_cut e N) := nf_up (nf_rem (nf_rem (nf_rem h rfl) rfl) rfl) (by decide)
theorem nf_ds {e : Nat} (hw : q_wf N) (h : q_nf N) : q_nf (o_ds e N) := nf_cut (nf_rms _ _ (wf_s hw).2 h)
theorem nf_rs {n : Int} (h : q_nf N) : q_nf (o_rs n N) := nf_fill (nf_fill (nf_up (nf_up (nf_up h (by decide)) (by decide)) (by decide)) rfl) rfl
theorem nf_cn {a b l : Int} (h : q_nf N) (hE : w_ne N < 12) : q_nf (o_cn a b l N) := nf_up (nf_up (nf_up (nf_up h (by rw [q_len2]; simpa using hE)) (by rw [q_len2]; simpa using hE)) (by rw [q_len2]; simpa using hE)) (by decide)
theorem nf_fb {a b l : Int} (h : q_nf N) (hE : w_ns N < 6) : q_nf (o_fb a b l N) := nf_up (nf_up (nf_up (nf_up h (by rw [q_len2]; simpa using hE)) (by rw [q_len2]; simpa using hE)) (by rw [q_len2]; simpa using hE)) (by decide)
theorem wf_rs {n : Int} (hw : q_wf N) (h1 : 1 ≤ n) (h8 : n ≤ 8) : q_wf (o_rs n N) := by
  have z : o_rs n N 0 0 = n ∧ o_rs n N 0 1 = 0 ∧ o_rs n N 0 2 = 0 := by
    unfold o_rs
    simp (disch := omega) only [q_fill_ne, m_up2_at, m_up2_nk, and_self]
  have ze : w_ne (o_rs n N) = 0 := by unfold w_ne; rw [z.2.1]; rfl
  have zs : w_ns (o_rs n N) = 0 := by unfold w_ns; rw [z.2.2]; rfl
  have hs := hw.2.2.2.1
  refine ⟨by rw [z.1]; omega, by rw [z.2.1]; omega, by rw [z.2.2]; omega, ?_, fun i hi => ?_, fun e he => absurd he (by rw [ze]; omega), fun e f _ hf => absurd hf (by rw [ze]; omega), fun k hk => absurd hk (by rw [zs]; omega)⟩
  · intro r j hr hj
    unfold o_rs q_fill
    split
    · show (0 : Int) ≤ 0 ∧ (0 : Int) ≤ 50
      omega
    · split
      · show (0 : Int) ≤ 1 ∧ (1 : Int) ≤ 50
        omega
      · rw [m_up2_ne (by omega), m_up2_ne (by omega), m_up2_ne (by omega)]
        exact hs r j hr hj
  · unfold o_rs
    rw [q_fill_ne (by omega), q_fill_at hi, q_fill_at hi]
    omega
theorem wf_wt {i : Nat} {v : Int} (hw : q_wf N) (hi : i < 8) (hv : 0 ≤ v) (hv9 : v ≤ 9) : q_wf (m_up2 N 2 i v) ∧ q_wf (m_up2 N 4 i v) := by
  have key : ∀ r, r = 2 ∨ r = 4 → q_wf (m_up2 N r i v) := by
    intro r hr
    have e0 : m_up2 N r i v 0 = N 0 := m_up2_ne (by omega)
    have e6 : m_up2 N r i v 6 = N 6 := m_up2_ne (by omega)
    have e8 : m_up2 N r i v 8 = N 8 := m_up2_ne (by omega)
    have e10 : m_up2 N r i v 10 = N 10 := m_up2_ne (by omega)
    have e12 : m_up2 N r i v 12 = N 12 := m_up2_ne (by omega)
    have e14 : m_up2 N r i v 14 = N 14 := m_up2_ne (by omega)
    have e16 : m_up2 N r i v 16 = N 16 := m_up2_ne (by omega)
    obtain ⟨h1, h2, h3, h4, h5, h6, h7, h8⟩ := hw
    have ee : w_ne (m_up2 N r i v) = w_ne N := by unfold w_ne; rw [e0]
    have es : w_ns (m_up2 N r i v) = w_ns N := by unfold w_ns; rw [e0]
    refine ⟨by rw [e0]; exact h1, by rw [e0]; exact h2, by rw [e0]; exact h3, q_sml_up h4 (fun _ => by omega), fun j hj => ?_, fun e he => ?_, fun e f hef hf => ?_, fun k hk => ?_⟩
    · have := h5 j hj
      unfold m_up2
      split <;> split <;> omega
    · rw [ee] at he
      rw [e0, e6, e8, e10]
      exact h6 e he
    · rw [ee] at hf
      unfold w_jo
      rw [e6, e8]
      exact h7 e f hef hf
    · rw [es] at hk
      rw [e0, e10, e12, e14, e16]
      exact h8 k hk
  exact ⟨key 2 (Or.inl rfl), key 4 (Or.inr rfl)⟩
theorem wf_cn {a b l : Int} (hw : q_wf N) (hE : w_ne N < 12) (ha : 0 ≤ a) (ha2 : a < N 0 0) (hb : 0 ≤ b) (hb2 : b < N 0 0) (hab : a ≠ b) (hl : 1 ≤ l) (hl2 : l ≤ 50) (hj : ∀ i, i < w_ne N → ¬ (N 6 i = a ∧ N 8 i = b ∨ N 6 i = b ∧ N 8 i = a)) : q_wf (o_cn a b l N) := by
  have hw' := hw
  obtain ⟨h1, h2, h3, h4, h5, h6, h7, h8⟩ := hw
  have z0 : o_cn a b l N 0 0 = N 0 0 ∧ o_cn a b l N 0 1 = (w_ne N : Int) + 1 ∧ o_cn a b l N 0 2 = N 0 2 := by
    unfold o_cn
    simp (disch := omega) only [m_up2_ne, m_up2_at, m_up2_nk, and_self]
  have ze : w_ne (o_cn a b l N) = w_ne N + 1 := by
    show (o_cn a b l N 0 1).toNat = _
    rw [z0.2.1]
    omega
  have zs : w_ns (o_cn a b l N) = w_ns N := by unfold w_ns; rw [z0.2.2]
  have old : ∀ i, i ≠ w_ne N → o_cn a b l N 6 i = N 6 i ∧ o_cn a b l N 8 i = N 8 i ∧ o_cn a b l N 10 i = N 10 i := fun i hi => by
    unfold o_cn
    simp (disch := omega) only [m_up2_ne, m_up2_nk, and_self]
  have new : o_cn a b l N 6 (w_ne N) = a ∧ o_cn a b l N 8 (w_ne N) = b ∧ o_cn a b l N 10 (w_ne N) = l := by
    unfold o_cn
    simp (disch := omega) only [m_up2_ne, m_up2_at, and_self]
  have oth : ∀ r, r = 2 ∨ r = 4 ∨ r = 12 ∨ r = 14 ∨ r = 16 → o_cn a b l N r = N r := fun r hr => by
    unfold o_cn
    rw [m_up2_ne (by omega), m_up2_ne (by omega), m_up2_ne (by omega), m_up2_ne (by omega)]
  refine ⟨by rw [z0.1]; exact h1, by rw [z0.2.1]; omega, by rw [z0.2.2]; exact h3, q_sml_up (q_sml_up (q_sml_up (q_sml_up h4 (fun _ => by omega)) (fun _ => by omega)) (fun _ => by omega)) (fun q => absurd q (by omega)), fun j hj => ?_, fun e he => ?_, fun e f hef hf => ?_, fun k hk => ?_⟩
  · rw [oth 2 (by omega), oth 4 (by omega)]
    exact h5 j hj
  · rw [ze] at he
    rw [z0.1]
    by_cases c : e = w_ne N
    · rw [c, new.1, new.2.1, new.2.2]
      exact ⟨ha2, hb2, hab, hl⟩
    · rw [(old e c).1, (old e c).2.1, (old e c).2.2]
      exact h6 e (by omega)
  · rw [ze] at hf
    unfold w_jo
    rw [(old e (by omega)).1, (old e (by omega)).2.1]
    by_cases c : f = w_ne N
    · rw [c, new.1, new.2.1]
      exact hj e (by omega)
    · rw [(old f c).1, (old f c).2.1]
      exact h7 e f hef (by omega)
  · rw [zs] at hk
    have hst := h8 k hk
    obtain ⟨d, d1, d2, -⟩ := wf_st hw' hk
    rw [oth 12 (by omega), oth 14 (by omega), oth 16 (by omega), z0.2.1, (old (N 12 k).toNat (by omega)).2.2]
    refine ⟨?_, hst.2⟩
    have := (wf_e hw').1
    omega
theorem wf_fb {a b e : Int} (hw : q_wf N) (hE : w_ns N < 6) (he : 0 ≤ e) (he2 : e < N 0 1) (ha : 0 ≤ a) (hab : a < b) (hb : b ≤ N 10 e.toNat) : q_wf (o_fb e a b N) := by
  have hw' := hw
  have hne := (wf_e hw')
  have hed := wf_ed hw' (e := e.toNat) (by omega)
  obtain ⟨h1, h2, h3, h4, h5, h6, h7, h8⟩ := hw
  have z0 : o_fb e a b N 0 0 = N 0 0 ∧ o_fb e a b N 0 1 = N 0 1 ∧ o_fb e a b N 0 2 = (w_ns N : Int) + 1 := by
    unfold o_fb
    simp (disch := omega) only [m_up2_ne, m_up2_at, m_up2_nk, and_self]
  have zs : w_ns (o_fb e a b N) = w_ns N + 1 := by
    show (o_fb e a b N 0 2).toNat = _
    rw [z0.2.2]
    omega
  have ze : w_ne (o_fb e a b N) = w_ne N := by unfold w_ne; rw [z0.2.1]
  have old : ∀ i, i ≠ w_ns N → o_fb e a b N 12 i = N 12 i ∧ o_fb e a b N 14 i = N 14 i ∧ o_fb e a b N 16 i = N 16 i := fun i hi => by
    unfold o_fb
    simp (disch := omega) only [m_up2_ne, m_up2_nk, and_self]
  have new : o_fb e a b N 12 (w_ns N) = e ∧ o_fb e a b N 14 (w_ns N) = a ∧ o_fb e a b N 16 (w_ns N) = b := by
    unfold o_fb
    simp (disch := omega) only [m_up2_ne, m_up2_at, and_self]
  have oth : ∀ r, r = 2 ∨ r = 4 ∨ r = 6 ∨ r = 8 ∨ r = 10 → o_fb e a b N r = N r := fun r hr => by
    unfold o_fb
    rw [m_up2_ne (by omega), m_up2_ne (by omega), m_up2_ne (by omega), m_up2_ne (by omega)]
  refine ⟨by rw [z0.1]; exact h1, by rw [z0.2.1]; exact h2, by rw [z0.2.2]; omega, q_sml_up (q_sml_up (q_sml_up (q_sml_up h4 (fun _ => by omega)) (fun _ => by omega)) (fun _ => by omega)) (fun q => absurd q (by omega)), fun j hj => ?_, fun e he => ?_, fun e f hef hf => ?_, fun k hk => ?_⟩
  · rw [oth 2 (by omega), oth 4 (by omega)]
    exact h5 j hj
  · rw [ze] at he
    rw [z0.1, oth 6 (by omega), oth 8 (by omega), oth 10 (by omega)]
    exact h6 _ he
  · rw [ze] at hf
    unfold w_jo
    rw [oth 6 (by omega), oth 8 (by omega)]
    exact h7 e f hef hf
  · rw [zs] at hk
    rw [z0.2.1, oth 10 (by omega)]
    by_cases c : k = w_ns N
    · rw [c, new.1, new.2.1, new.2.2]
      exact ⟨he2, hab, hb⟩
    · rw [(old k c).1, (old k c).2.1, (old k c).2.2]
      exact h8 k (by omega)
theorem wf_al {p : Nat} (hw : q_wf N) (hp : p < w_ns N) : q_wf (w_rmS p N) := by
  have hw' := hw
  have hs := wf_s hw'
  obtain ⟨h1, h2, h3, h4, h5, h6, h7, h8⟩ := hw
  have z0 : w_rmS p N 0 0 = N 0 0 ∧ w_rmS p N 0 1 = N 0 1 ∧ w_rmS p N 0 2 = N 0 2 - 1 := by
    unfold w_rmS
    simp (disch := omega) only [m_up2_at, m_up2_nk, q_rem_ne, and_self]
  have zs : w_ns (w_rmS p N) = w_ns N - 1 := by
    show (w_rmS p N 0 2).toNat = _
    rw [z0.2.2]
    omega
  have ze : w_ne (w_rmS p N) = w_ne N := by unfold w_ne; rw [z0.2.1]
  have oth : ∀ r, r = 2 ∨ r = 4 ∨ r = 6 ∨ r = 8 ∨ r = 10 → w_rmS p N r = N r := fun r hr => by
    unfold w_rmS
    rw [m_up2_ne (by omega), q_rem_ne (by omega), q_rem_ne (by omega), q_rem_ne (by omega)]
  have row : ∀ k, k < w_ns N - 1 → ∃ k', k' < w_ns N ∧ w_rmS p N 12 k = N 12 k' ∧ w_rmS p N 14 k = N 14 k' ∧ w_rmS p N 16 k = N 16 k' := fun k hk => by
    refine ⟨if p ≤ k then k + 1 else k, by split <;> omega, ?_⟩
    rw [w_rmS_row (by omega), w_rmS_row (by omega), w_rmS_row (by omega)]
    by_cases c : p ≤ k
    · simp [c, show k + 1 < 6 by omega]
    · simp [c]
  refine ⟨by rw [z0.1]; exact h1, by rw [z0.2.1]; exact h2, by rw [z0.2.2]; omega, q_sml_rmS h4, fun j hj => ?_, fun e he => ?_, fun e f hef hf => ?_, fun k hk => ?_⟩
  · rw [oth 2 (by omega), oth 4 (by omega)]
    exact h5 j hj
  · rw [ze] at he
    rw [z0.1, oth 6 (by omega), oth 8 (by omega), oth 10 (by omega)]
    exact h6 _ he
  · rw [ze] at hf
    unfold w_jo
    rw [oth 6 (by omega), oth 8 (by omega)]
    exact h7 e f hef hf
  · rw [zs] at hk
    obtain ⟨k', e1, e2, e3, e4⟩ := row k hk
    rw [z0.2.1, oth 10 (by omega), e2, e3, e4]
    exact h8 k' e1
/-- what stands behind the stretches k, k + 1, .. when edge e is taken away -/
def w_di (N : Nat → Nat → Int) (e k : Nat) (M : Nat → Nat → Int) : Prop := q_sml M ∧ (M 0 0 = N 0 0 ∧ M 0 1 = N 0 1 ∧ (k : Int) ≤ M 0 2 ∧ M 0 2 ≤ 6) ∧ (∀ r, r = 2 ∨ r = 4 ∨ r = 6 ∨ r = 8 ∨ r = 10 → M r = N r) ∧ (∀ j, j < k → ∀ r, r = 12 ∨ r = 14 ∨ r = 16 → M r j = N r j) ∧ ∀ j : Nat, k ≤ j → (j : Int) < M 0 2 → 0 ≤ M 12 j ∧ M 12 j < N 0 1 - 1 ∧ M 14 j < M 16 j ∧ M 16 j ≤ N 10 (if M 12 j < (e : Int) then (M 12 j).toNat else (M 12 j).toNat + 1)
theorem w_di_s {e k : Nat} (hw : q_wf N) (he : e < w_ne N) (hk : k < w_ns N) {x : (Nat → Nat → Int) × Int} (h : w_di N e (k + 1) x.1) : w_di N e k (w_rm1 e k x).1 := by
  have hs6 := (wf_s hw)
  have hst := hw.2.2.2.2.2.2.2 k hk
  obtain ⟨d, d1, d2, d3, d4, d5, d6⟩ := wf_st hw hk
  obtain ⟨h1, ⟨h2, h3, h4, h4'⟩, h5, h6, h7⟩ := h
  have hne := wf_e hw
  have ek : x.1 12 k = N 12 k := h6 k (by omega) 12 (by omega)
  have ek14 : x.1 14 k = N 14 k := h6 k (by omega) 14 (by omega)
  have ek16 : x.1 16 k = N 16 k := h6 k (by omega) 16 (by omega)
  have sm := q_sml_rm1 (e := e) (k := k) h1 (by omega)
  by_cases c1 : x.1 12 k = (e : Int)
  · have e3 : w_rm1 e k x = (w_rmS k x.1, x.2 + 1) := by unfold w_rm1; rw [if_pos c1]
    rw [e3] at sm ⊢
    have z0 : w_rmS k x.1 0 0 = x.1 0 0 ∧ w_rmS k x.1 0 1 = x.1 0 1 ∧ w_rmS k x.1 0 2 = x.1 0 2 - 1 := by
      unfold w_rmS
      simp (disch := omega) only [m_up2_at, m_up2_nk, q_rem_ne, and_self]
    refine ⟨sm, ⟨z0.1.trans h2, z0.2.1.trans h3, by show (k : Int) ≤ w_rmS k x.1 0 2; rw [z0.2.2]; omega, by show w_rmS k x.1 0 2 ≤ 6; rw [z0.2.2]; omega⟩, fun r hr => ?_, fun j hj r hr => ?_, fun j hj hj2 => ?_⟩
    · show w_rmS k x.1 r = _
      unfold w_rmS
      rw [m_up2_ne (by omega), q_rem_ne (by omega), q_rem_ne (by omega), q_rem_ne (by omega)]
      exact h5 r hr
    · show w_rmS k x.1 r j = _
      rw [w_rmS_row hr, if_neg (by omega)]
      exact h6 j (by omega) r hr
    · have hj2 : (j : Int) < x.1 0 2 - 1 := by
        have : (j : Int) < w_rmS k x.1 0 2 := hj2
        rw [z0.2.2] at this
        exact this
      show 0 ≤ w_rmS k x.1 12 j ∧ w_rmS k x.1 12 j < N 0 1 - 1 ∧ w_rmS k x.1 14 j < w_rmS k x.1 16 j ∧ w_rmS k x.1 16 j ≤ N 10 (if w_rmS k x.1 12 j < (e : Int) then (w_rmS k x.1 12 j).toNat else (w_rmS k x.1 12 j).toNat + 1)
      rw [w_rmS_row (by omega), w_rmS_row (by omega), w_rmS_row (by omega), if_pos (by omega), if_pos (by omega), if_pos (by omega)]
      exact h7 (j + 1) (by omega) (by omega)
  · by_cases c2 : (e : Int) < x.1 12 k
    · have e3 : w_rm1 e k x = (m_up2 x.1 12 k (x.1 12 k - 1), x.2) := by unfold w_rm1; rw [if_neg c1, if_pos c2]
      rw [e3] at sm ⊢
      refine ⟨sm, ⟨by show m_up2 x.1 12 k (x.1 12 k - 1) 0 0 = _; rw [m_up2_ne (by omega)]; exact h2, by show m_up2 x.1 12 k (x.1 12 k - 1) 0 1 = _; rw [m_up2_ne (by omega)]; exact h3, by show (k : Int) ≤ m_up2 x.1 12 k (x.1 12 k - 1) 0 2; rw [m_up2_ne (by omega)]; omega, by show m_up2 x.1 12 k (x.1 12 k - 1) 0 2 ≤ 6; rw [m_up2_ne (by omega)]; exact h4'⟩, fun r hr => ?_, fun j hj r hr => ?_, fun j hj hj2 => ?_⟩
      · show m_up2 x.1 12 k (x.1 12 k - 1) r = _
        rw [m_up2_ne (by omega)]
        exact h5 r hr
      · show m_up2 x.1 12 k (x.1 12 k - 1) r j = _
        have : m_up2 x.1 12 k (x.1 12 k - 1) r j = x.1 r j := by
          unfold m_up2
          rw [if_neg (by omega)]
        rw [this]
        exact h6 j (by omega) r hr
      · have hj2 : (j : Int) < x.1 0 2 := by
          have : (j : Int) < m_up2 x.1 12 k (x.1 12 k - 1) 0 2 := hj2
          rw [m_up2_ne (by omega)] at this
          exact this
        show 0 ≤ m_up2 x.1 12 k (x.1 12 k - 1) 12 j ∧ m_up2 x.1 12 k (x.1 12 k - 1) 12 j < N 0 1 - 1 ∧ m_up2 x.1 12 k (x.1 12 k - 1) 14 j < m_up2 x.1 12 k (x.1 12 k - 1) 16 j ∧ m_up2 x.1 12 k (x.1 12 k - 1) 16 j ≤ N 10 (if m_up2 x.1 12 k (x.1 12 k - 1) 12 j < (e : Int) then (m_up2 x.1 12 k (x.1 12 k - 1) 12 j).toNat else (m_up2 x.1 12 k (x.1 12 k - 1) 12 j).toNat + 1)
        by_cases c3 : j = k
        · subst c3
          rw [m_up2_at, m_up2_ne (by omega), m_up2_ne (by omega), ek, ek14, ek16, if_neg (by omega)]
          have hix : (N 12 j - 1).toNat + 1 = (N 12 j).toNat := by omega
          rw [hix]
          omega
        · rw [m_up2_nk c3, m_up2_ne (by omega), m_up2_ne (by omega)]
          exact h7 j (by omega) hj2
    · have e3 : w_rm1 e k x = x := by unfold w_rm1; rw [if_neg c1, if_neg c2]
      rw [e3]
      refine ⟨h1, ⟨h2, h3, by omega, h4'⟩, h5, fun j hj => h6 j (by omega), fun j hj hj2 => ?_⟩
      by_cases c3 : j = k
      · subst c3
        rw [ek, ek14, ek16, if_pos (by omega)]
        omega
      · exact h7 j (by omega) hj2
theorem w_di_all {e : Nat} (hw : q_wf N) (he : e < w_ne N) : ∀ (k : Nat) (x : (Nat → Nat → Int) × Int), k ≤ w_ns N → w_di N e k x.1 → w_di N e 0 (w_rms e k x).1
  | 0, _, _, h => h
  | k + 1, x, hk, h => w_di_all hw he k (w_rm1 e k x) (by omega) (w_di_s hw he (by omega) h)
theorem wf_ds {e : Nat} (hw : q_wf N) (he : e < w_ne N) : q_wf (o_ds e N) := by
  have hs := wf_s hw
  have hne := wf_e hw
  have h := w_di_all hw he (w_ns N) (N, 0) (Nat.le_refl _) ⟨hw.2.2.2.1, ⟨rfl, rfl, by show (w_ns N : Int) ≤ N 0 2; omega, by show N 0 2 ≤ 6; omega⟩, fun _ _ => rfl, fun _ _ _ _ => rfl, fun j hj hj2 => absurd hj2 (by show ¬ (j : Int) < N 0 2; omega)⟩
  unfold o_ds
  generalize (w_rms e (w_ns N) (N, 0)).1 = M at *
  obtain ⟨h1, ⟨h2, h3, h4, h4'⟩, h5, -, h7⟩ := h
  obtain ⟨g1, g2, g3, g4, g5, g6, g7, g8⟩ := hw
  have z0 : w_cut e M 0 0 = M 0 0 ∧ w_cut e M 0 1 = M 0 1 - 1 ∧ w_cut e M 0 2 = M 0 2 := by
    unfold w_cut
    simp (disch := omega) only [m_up2_at, m_up2_nk, q_rem_ne, and_self]
  have ze : w_ne (w_cut e M) = w_ne N - 1 := by
    show (w_cut e M 0 1).toNat = _
    rw [z0.2.1, h3]
    omega
  have row : ∀ r k, r = 6 ∨ r = 8 ∨ r = 10 → k < w_ne N - 1 → w_cut e M r k = N r (if e ≤ k then k + 1 else k) := fun r k hr hk => by
    have hr' := h5 r (by omega)
    have : w_cut e M r k = if e ≤ k ∧ k + 1 < 12 then M r (k + 1) else M r k := by
      unfold w_cut
      rcases hr with rfl | rfl | rfl <;> simp (disch := omega) only [m_up2_ne, q_rem_ne, q_rem_at]
    rw [this, hr']
    by_cases c : e ≤ k
    · rw [if_pos (by omega), if_pos c]
    · rw [if_neg (by omega), if_neg c]
  have oth : ∀ r, r = 2 ∨ r = 4 ∨ r = 12 ∨ r = 14 ∨ r = 16 → w_cut e M r = M r := fun r hr => by
    unfold w_cut
    rw [m_up2_ne (by omega), q_rem_ne (by omega), q_rem_ne (by omega), q_rem_ne (by omega)]
  refine ⟨by rw [z0.1, h2]; exact g1, by rw [z0.2.1, h3]; omega, by rw [z0.2.2]; omega, q_sml_up (q_sml_rem (q_sml_rem (q_sml_rem h1 rfl) rfl) rfl) (fun q => absurd q (by omega)), fun j hj => ?_, fun k hk => ?_, fun f f2 hf hf2 => ?_, fun k hk => ?_⟩
  · rw [oth 2 (by omega), oth 4 (by omega), h5 2 (by omega), h5 4 (by omega)]
    exact g5 j hj
  · rw [ze] at hk
    rw [z0.1, h2, row 6 k (by omega) hk, row 8 k (by omega) hk, row 10 k (by omega) hk]
    exact g6 _ (by split <;> omega)
  · rw [ze] at hf2
    unfold w_jo
    rw [row 6 f (by omega) (by omega), row 8 f (by omega) (by omega), row 6 f2 (by omega) hf2, row 8 f2 (by omega) hf2]
    exact g7 _ _ (by split <;> split <;> omega) (by split <;> omega)
  · have hk2 : (k : Int) < M 0 2 := by
      have : k < (w_cut e M 0 2).toNat := hk
      rw [z0.2.2] at this
      omega
    have hh := h7 k (Nat.zero_le _) hk2
    rw [z0.2.1, h3, oth 12 (by omega), oth 14 (by omega), oth 16 (by omega), row 10 _ (by omega) (by omega)]
    refine ⟨hh.2.1, hh.2.2.1, ?_⟩
    have h9 := hh.2.2.2
    by_cases c : M 12 k < (e : Int)
    · rw [if_pos c] at h9
      rw [if_neg (by omega)]
      exact h9
    · rw [if_neg c] at h9
      rw [if_pos (by omega)]
      exact h9
end
end
