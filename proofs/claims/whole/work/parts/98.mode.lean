section
/-! The model: crossings. -/
def z_by (q : Int) : Int := if q < 0 then -1 else 1
def z_c1 (N : Nat → Nat → Int) (g : Nat) (p q : Int) : List (Int × Int) := if q ≠ 0 ∧ 0 ≤ z_by q * p ∧ z_by q * p ≤ z_by q * q * N 10 g then [(z_by q * p, z_by q * q)] else []
def z_pk (N : Nat → Nat → Int) (g i : Nat) : Int := w_b N g i - w_o N g i
def z_c4 (N : Nat → Nat → Int) (t : Int) (g i j k : Nat) : List (Int × Int) := z_c1 N g (w_lt N t g (2 * j + k / 2) - w_lt N t g (2 * i + k % 2)) (w_ls N t (2 * i + k % 2) - w_ls N t (2 * j + k / 2))
def z_ci (N : Nat → Nat → Int) (t S : Int) (g i : Nat) : List (Int × Int) := (if q_bt S i = true then z_c1 N g (z_pk N g i) 2 else []) ++ q_cat (fun j => if q_bt S i = true ∧ q_bt S j = true then q_cat (z_c4 N t g i j) 4 else []) i
def z_cs (N : Nat → Nat → Int) (g k : Nat) : List (Int × Int) := if N 12 k = (g : Int) then z_c1 N g (N 14 k) 1 ++ z_c1 N g (N 16 k) 1 else []
def z_xs (N : Nat → Nat → Int) (t S : Int) (g : Nat) : List (Int × Int) := z_c1 N g 0 1 ++ z_c1 N g (N 10 g) 1 ++ q_cat (z_ci N t S g) (w_nn N) ++ q_cat (z_cs N g) (w_ns N)
theorem z_c1_len {N : Nat → Nat → Int} {g : Nat} {p q : Int} : (z_c1 N g p q).length ≤ 1 := by
  unfold z_c1
  split <;> simp
def z_xl (σ : Nat → Nat → Int) (L : List (Int × Int)) : Prop := σ 191 9 = (L.length : Int) ∧ ∀ i, i < L.length → σ 198 i = (L.getD i (0, 0)).1 ∧ σ 199 i = (L.getD i (0, 0)).2
/-- only the list of crossings changes -/
def z_f9 (σ τ : Nat → Nat → Int) : Prop := (∀ a, a ≠ 191 → a ≠ 198 → a ≠ 199 → τ a = σ a) ∧ ∀ j, j ≠ 9 → τ 191 j = σ 191 j
theorem z_f9_r {σ : Nat → Nat → Int} : z_f9 σ σ := ⟨fun _ _ _ _ => rfl, fun _ _ => rfl⟩
theorem z_f9_t {σ τ ρ : Nat → Nat → Int} (h : z_f9 σ τ) (h2 : z_f9 τ ρ) : z_f9 σ ρ := ⟨fun a h3 h4 h5 => (h2.1 a h3 h4 h5).trans (h.1 a h3 h4 h5), fun j h3 => (h2.2 j h3).trans (h.2 j h3)⟩
section
variable {Z : mZ} {K : Nat → mK} {σ τ N M : Nat → Nat → Int} {e g i L n c k s a b : Nat} {t p q v x y z w u S : Int} {X : Nat → Int} {h : mH} {R : Nat → Nat → Nat → Int} {T : Nat → Int}
theorem z_sur9 (h : z_sur σ N t) (hf : z_f9 σ τ) : z_sur τ N t := z_surF h (fun a ha => hf.1 a (by omega) (by omega) (by omega))
theorem z_crosses {L : List (Int × Int)} (hL : q_lay K) (hn : z_n σ N) (hg : g < w_ne N) (hx : z_xl σ L) (hl : L.length < 160) (hp : -1000000000 ≤ p) (hp2 : p ≤ 1000000000) (hq : -1000000 ≤ q) (hq2 : q ≤ 1000000) : ∃ τ, m_cl Z 205 [(2, ((191 : Nat) : Int)), (0, (g : Int)), (1, p), (1, q)] (K, σ, 206, e, s) = some (.inl (9, 0), (K, τ, 206, e, s)) ∧ z_xl τ (L ++ z_c1 N g p q) ∧ z_f9 σ τ := by
  have ho := (z_of (Z := Z) (e := e) (s := s) hL hn hg).2.2
  have h7 := wf_ed hn.1 hg
  have w0 : w64 0 = 0 := by decide
  have wq : w64 q = q := by clear w0; exact q_w64 (by omega) (by omega)
  have hc1 : (0 ≤ w32 (l_cmp q 0)) = (0 ≤ q) := l_cge wq w0
  have hc2 : (w32 (l_cmp q 0) = 0) = (q = 0) := l_ce wq w0
  have wl : w32 (N 10 g) = N 10 g := by clear w0 wq hc1 hc2; exact q_wi (by omega) (by omega)
  obtain ⟨B, hB⟩ : ∃ B, B = z_by q := ⟨_, rfl⟩
  have hB2 : B = if 0 ≤ q then 1 else -1 := by
    rw [hB]
    unfold z_by
    by_cases c : q < 0
    · rw [if_pos c, if_neg (by clear w0 wq hc1 hc2 wl; omega)]
    · rw [if_neg c, if_pos (by clear w0 wq hc1 hc2 wl; omega)]
  have hBc : B = 1 ∨ B = -1 := by rw [hB2]; split <;> simp
  have head : m_cl Z 205 [(2, ((191 : Nat) : Int)), (0, (g : Int)), (1, p), (1, q)] (K, σ, 206, e, s) = if q = 0 then m_run Z (205, 90, [(2, ((191 : Nat) : Int)), (0, (g : Int)), (1, p), (9, 0), (1, q), (9, 0), (1, B), (9, 0)], [], (K, σ, 206, e, s)) else m_run Z (205, 23, [(2, ((191 : Nat) : Int)), (0, (g : Int)), (1, p), (9, 0), (1, q), (9, 0), (1, B), (9, 0)], [], (K, σ, 206, e, s)) := by
    by_cases c : 0 ≤ q
    · rw [if_pos c] at hB2
      rw [hB2]
      simp only [e_205, b_205_0, b_205_13, b_205_14, ↓reduceIte, Nat.reduceEqDiff, Nat.reduceMul, q_n10, q_n01, Option.bind_some, g_aft0, g_aft1, g_aft2, g_aft3, g_aft9, Nat.reduceAdd, m_kill_0, m_kill_2, m_kill_3, m_kill_4, m_kill_9, true_or, or_true, q_lm1, q_l0, q_l1, q_l2, q_l3, q_l4, q_l5, q_l6, q_l8, q_l9, q_l10, q_l12, q_l17, q_l32, q_l35, q_l48, q_l50, q_l54, q_l57, q_l64, q_l73, q_l118, q_l119, q_l120, q_l122, q_l126, q_l160, q_l256, q_l365, q_l372, q_l438, q_l1000, q_l100000, q_l1000000, hc1, hc2, c]
    · rw [if_neg c] at hB2
      rw [hB2]
      simp only [e_205, b_205_0, b_205_7, ↓reduceIte, Nat.reduceEqDiff, Nat.reduceMul, q_n10, q_n01, Option.bind_some, g_aft0, g_aft1, g_aft2, g_aft3, g_aft9, Nat.reduceAdd, m_kill_0, m_kill_2, m_kill_3, m_kill_4, m_kill_9, true_or, or_true, q_lm1, q_l0, q_l1, q_l2, q_l3, q_l4, q_l5, q_l6, q_l8, q_l9, q_l10, q_l12, q_l17, q_l32, q_l35, q_l48, q_l50, q_l54, q_l57, q_l64, q_l73, q_l118, q_l119, q_l120, q_l122, q_l126, q_l160, q_l256, q_l365, q_l372, q_l438, q_l1000, q_l100000, q_l1000000, hc1, hc2, c]
  rw [head]
  unfold z_c1
  rw [← hB]
  by_cases cq : q = 0
  · rw [if_pos cq]
    refine ⟨σ, ?_, by rw [if_neg (fun d => d.1 cq), List.append_nil]; exact hx, z_f9_r⟩
    rw [b_205_90]
  · rw [if_neg cq]
    have bp : B * p = p ∨ B * p = -p := by rcases hBc with d | d <;> rw [d] <;> clear w0 wq hc1 hc2 wl head <;> omega
    have bq : B * q = q ∨ B * q = -q := by rcases hBc with d | d <;> rw [d] <;> clear w0 wq hc1 hc2 wl head <;> omega
    obtain ⟨P, hP⟩ : ∃ P, P = B * p := ⟨_, rfl⟩
    obtain ⟨Q, hQ⟩ : ∃ Q, Q = B * q := ⟨_, rfl⟩
    rw [← hP] at bp ⊢
    rw [← hQ] at bq ⊢
    have wP : w64 P = P := by clear w0 wq hc1 hc2 wl head; exact q_w64 (by omega) (by omega)
    have mQ : -50000000 ≤ Q * N 10 g ∧ Q * N 10 g ≤ 50000000 := by
      clear w0 wq hc1 hc2 wl head wP
      have hl0 : 0 ≤ N 10 g := by omega
      have hl5 : N 10 g ≤ 50 := by omega
      have qa : -1000000 ≤ Q := by omega
      have qb : Q ≤ 1000000 := by omega
      have m1 := Int.mul_le_mul_of_nonneg_right qa hl0
      have m2 := Int.mul_le_mul_of_nonneg_right qb hl0
      constructor
      · refine Int.le_trans ?_ m1
        omega
      · refine Int.le_trans m2 ?_
        omega
    have wQ : w64 (Q * N 10 g) = Q * N 10 g := by clear w0 wq hc1 hc2 wl head wP; exact q_w64 (by omega) (by omega)
    have d1 : (w32 (l_cmp P 0) < 0) = (P < 0) := l_cl wP w0
    have d2 : (0 < w32 (l_cmp P (Q * N 10 g))) = (Q * N 10 g < P) := l_cg wP wQ
    by_cases c1 : P < 0
    · refine ⟨σ, ?_, by rw [if_neg (fun d => absurd c1 (Int.not_lt.mpr d.2.1)), List.append_nil]; exact hx, z_f9_r⟩
      simp only [b_205_23, b_205_90, ↓reduceIte, Nat.reduceEqDiff, Nat.reduceMul, q_n10, q_n01, Option.bind_some, g_aft0, g_aft1, g_aft2, g_aft3, g_aft9, Nat.reduceAdd, m_kill_0, m_kill_2, m_kill_3, m_kill_4, m_kill_9, true_or, or_true, q_lm1, q_l0, q_l1, q_l2, q_l3, q_l4, q_l5, q_l6, q_l8, q_l9, q_l10, q_l12, q_l17, q_l32, q_l35, q_l48, q_l50, q_l54, q_l57, q_l64, q_l73, q_l118, q_l119, q_l120, q_l122, q_l126, q_l160, q_l256, q_l365, q_l372, q_l438, q_l1000, q_l100000, q_l1000000, ← hP, d1, c1]
    · by_cases c2 : Q * N 10 g < P
      · refine ⟨σ, ?_, by rw [if_neg (fun d => absurd c2 (Int.not_lt.mpr d.2.2)), List.append_nil]; exact hx, z_f9_r⟩
        simp only [b_205_23, b_205_32, b_205_47, b_205_90, ↓reduceIte, Nat.reduceEqDiff, Nat.reduceMul, q_n10, q_n01, Option.bind_some, g_aft0, g_aft1, g_aft2, g_aft3, g_aft9, Nat.reduceAdd, m_kill_0, m_kill_2, m_kill_3, m_kill_4, m_kill_9, true_or, or_true, q_lm1, q_l0, q_l1, q_l2, q_l3, q_l4, q_l5, q_l6, q_l8, q_l9, q_l10, q_l12, q_l17, q_l32, q_l35, q_l48, q_l50, q_l54, q_l57, q_l64, q_l73, q_l118, q_l119, q_l120, q_l122, q_l126, q_l160, q_l256, q_l365, q_l372, q_l438, q_l1000, q_l100000, q_l1000000, q_modF hL.2.2.2.2.2.2.1, ← hP, ← hQ, d1, c1, ho, wl, d2, c2]
      · rw [if_pos ⟨cq, Int.not_lt.mp c1, Int.not_lt.mp c2⟩]
        obtain ⟨x1, x2⟩ := hx
        have wn : w32 (L.length : Int) = (L.length : Int) := q_w (by clear w0 wq hc1 hc2 wl head wP wQ d1 d2; omega)
        have p0 : 0 ≤ (L.length : Int) := by clear w0 wq hc1 hc2 wl head wP wQ d1 d2 wn; omega
        have p1 : (L.length : Int) < ((160 : Nat) : Int) := by clear w0 wq hc1 hc2 wl head wP wQ d1 d2 wn; omega
        have tn : ((L.length : Int)).toNat = L.length := rfl
        have k1 : ∀ v, m_up2 σ 198 L.length v 191 9 = (L.length : Int) := fun v => by rw [m_up2_ne (by omega)]; exact x1
        have k2 : ∀ v v', m_up2 (m_up2 σ 198 L.length v) 199 L.length v' 191 9 = (L.length : Int) := fun v v' => by rw [m_up2_ne (by omega), m_up2_ne (by omega)]; exact x1
        refine ⟨m_up2 (m_up2 (m_up2 σ 198 L.length P) 199 L.length Q) 191 9 ((L.length : Int) + 1), ?_, ⟨?_, fun i hi => ?_⟩, fun a h1 h2 h3 => by rw [m_up2_ne h1, m_up2_ne h3, m_up2_ne h2], fun j hj => by rw [m_up2_nk hj, m_up2_ne (by omega), m_up2_ne (by omega)]⟩
        · simp only [b_205_23, b_205_32, b_205_47, b_205_53, b_205_90, ↓reduceIte, Nat.reduceEqDiff, Nat.reduceMul, q_n10, q_n01, Option.bind_some, g_aft0, g_aft1, g_aft2, g_aft3, g_aft9, Nat.reduceAdd, m_kill_0, m_kill_2, m_kill_3, m_kill_4, m_kill_9, true_or, or_true, q_lm1, q_l0, q_l1, q_l2, q_l3, q_l4, q_l5, q_l6, q_l8, q_l9, q_l10, q_l12, q_l17, q_l32, q_l35, q_l48, q_l50, q_l54, q_l57, q_l64, q_l73, q_l118, q_l119, q_l120, q_l122, q_l126, q_l160, q_l256, q_l365, q_l372, q_l438, q_l1000, q_l100000, q_l1000000, q_modF hL.2.2.2.2.2.2.1, ← hP, ← hQ, d1, c1, ho, wl, d2, c2, x1, wn, p0, p1, tn, k1, k2]
        · rw [m_up2_at, List.length_append]
          rfl
        · rw [List.length_append] at hi
          have hi' : i < L.length + 1 := hi
          have u198 : m_up2 (m_up2 (m_up2 σ 198 L.length P) 199 L.length Q) 191 9 ((L.length : Int) + 1) 198 = m_up2 σ 198 L.length P 198 := by rw [m_up2_ne (by decide), m_up2_ne (by decide)]
          have u199 : m_up2 (m_up2 (m_up2 σ 198 L.length P) 199 L.length Q) 191 9 ((L.length : Int) + 1) 199 = m_up2 (m_up2 σ 198 L.length P) 199 L.length Q 199 := by rw [m_up2_ne (by decide)]
          rw [u198, u199]
          by_cases ci : i = L.length
          · subst ci
            rw [m_up2_at, m_up2_at, getD_r]
            exact ⟨rfl, rfl⟩
          · have hlt : i < L.length := Nat.lt_of_le_of_ne (Nat.le_of_lt_succ hi') ci
            rw [m_up2_nk ci, m_up2_nk ci, m_up2_ne (by decide), getD_l hlt]
            exact x2 i hlt
end
end
