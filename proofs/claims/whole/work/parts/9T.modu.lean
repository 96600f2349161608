section
/-! The model: reading of scripts. -/
/-- place and fault alone change -/
def z_fp (σ τ : Nat → Nat → Int) : Prop := (∀ a, a ≠ 191 → τ a = σ a) ∧ ∀ j, j ≠ 23 → j ≠ 24 → τ 191 j = σ 191 j
theorem z_fp_r {σ : Nat → Nat → Int} : z_fp σ σ := ⟨fun _ _ => rfl, fun _ _ _ => rfl⟩
theorem z_fp_t {σ τ ρ : Nat → Nat → Int} (h : z_fp σ τ) (h2 : z_fp τ ρ) : z_fp σ ρ := ⟨fun a h3 => (h2.1 a h3).trans (h.1 a h3), fun j h3 h4 => (h2.2 j h3 h4).trans (h.2 j h3 h4)⟩
theorem z_fp_23 {σ : Nat → Nat → Int} {v : Int} : z_fp σ (m_up2 σ 191 23 v) := ⟨fun a h => m_up2_ne h, fun j h _ => m_up2_nk h⟩
theorem z_fp_24 {σ : Nat → Nat → Int} {v : Int} : z_fp σ (m_up2 σ 191 24 v) := ⟨fun a h => m_up2_ne h, fun j _ h => m_up2_nk h⟩
theorem z_txt_p {σ τ : Nat → Nat → Int} {X : Nat → Int} {L : Nat} (h : z_txt σ X L) (hf : z_fp σ τ) : z_txt τ X L := ⟨(hf.2 6 (by omega) (by omega)).trans h.1, h.2.1, fun i hi => by rw [hf.1 195 (by omega)]; exact h.2.2 i hi⟩
/-- what has been read: well so far (place, numbers), or a fault -/
def z_pst (σ : Nat → Nat → Int) (L : Nat) (x : Bool × Nat × List Int) : Prop := x.2.1 ≤ L ∧ (σ 191 24 = if x.1 = true then -1 else (x.2.1 : Int)) ∧ ∃ i : Nat, i ≤ L ∧ σ 191 23 = (i : Int) ∧ (x.1 = true → i = x.2.1)
def w_ptc (X : Nat → Int) (L : Nat) (r : List Nat) (x : Bool × Nat × List Int) : Bool × Nat × List Int := if x.1 = true then w_pt X L r x.2.1 x.2.2 else x
section
variable {Z : mZ} {K : Nat → mK} {σ τ N M : Nat → Nat → Int} {e g i j L n c k s a : Nat} {t p q v x y z w u S : Int} {X : Nat → Int} {h : mH} {R : Nat → Nat → Nat → Int} {T : Nat → Int}
theorem w_pt_app {r1 r2 : List Nat} : ∀ (i : Nat) (a : List Int), w_pt X L (r1 ++ r2) i a = w_ptc X L r2 (w_pt X L r1 i a) := by
  induction r1 with
  | nil => intro i a; rfl
  | cons c r ih =>
    intro i a
    show (if c = 35 then (if (w_nm X L i).1 = true then w_pt X L (r ++ r2) (w_nm X L i).2.1 (a ++ [(w_nm X L i).2.2]) else (false, (w_nm X L i).2.1, a)) else if w_sg X L (w_sk X L i) = (c : Int) then w_pt X L (r ++ r2) (w_sk X L i + 1) a else (false, w_sk X L i, a)) = w_ptc X L r2 (if c = 35 then (if (w_nm X L i).1 = true then w_pt X L r (w_nm X L i).2.1 (a ++ [(w_nm X L i).2.2]) else (false, (w_nm X L i).2.1, a)) else if w_sg X L (w_sk X L i) = (c : Int) then w_pt X L r (w_sk X L i + 1) a else (false, w_sk X L i, a))
    split
    · split
      · exact ih _ _
      · rfl
    · split
      · exact ih _ _
      · rfl
theorem z_sgb (h : z_txt σ X L) (hi : i < L) : σ 195 i = w_sg X L i ∧ w32 (w_sg X L i) = w_sg X L i ∧ 32 ≤ w_sg X L i ∧ w_sg X L i ≤ 126 := by
  have := h.2.2 i hi
  have e1 : w_sg X L i = X i := if_pos hi
  rw [e1]
  exact ⟨this.1, q_wi (by omega) (by omega), this.2⟩
theorem z_pl (h : z_txt σ X L) (hp : σ 191 23 = (i : Int)) (hi : i ≤ L) : w32 (σ 191 6) = (L : Int) ∧ w32 (σ 191 23) = (i : Int) ∧ (i < L → 0 ≤ (i : Int) ∧ (i : Int) < ((120 : Nat) : Int) ∧ ((i : Int)).toNat = i) := by
  have := h.2.1
  refine ⟨by rw [h.1, q_w (by omega)], by rw [hp, q_w (by omega)], fun q => ⟨by omega, by omega, rfl⟩⟩
theorem z_look (hL : q_lay K) : ∀ (d : Nat) (σ : Nat → Nat → Int) (i : Nat), z_txt σ X L → σ 191 23 = (i : Int) → d + i = L → m_run Z (239, 0, [(2, ((191 : Nat) : Int))], [], (K, σ, 206, e, s)) = some (.inl (0, w_sg X L (w_skf X L d i)), (K, m_up2 σ 191 23 (w_skf X L d i : Int), 206, e, s)) := by
  intro d
  induction d with
  | zero =>
    intro σ i h hp hd
    obtain ⟨a1, a2, -⟩ := z_pl h hp (by omega)
    have c0 : (L : Int) ≤ (i : Int) := by clear a1 a2; omega
    have e0 : w_sg X L i = 0 := by unfold w_sg; rw [if_neg (by clear a1 a2; omega)]
    have hself : m_up2 σ 191 23 (i : Int) = σ := m_up2_self hp
    rw [show w_skf X L 0 i = i from rfl, e0, hself]
    simp only [b_239_0, b_239_38, b_239_61, b_239_62, ↓reduceIte, Nat.reduceEqDiff, Nat.reduceMul, q_n10, q_n01, Option.bind_some, g_aft0, g_aft1, g_aft2, g_aft3, g_aft9, Nat.reduceAdd, m_kill_0, m_kill_2, m_kill_3, m_kill_4, m_kill_9, true_or, or_true, q_lm1, q_l0, q_l1, q_l2, q_l3, q_l4, q_l5, q_l6, q_l8, q_l9, q_l10, q_l12, q_l17, q_l32, q_l35, q_l48, q_l50, q_l54, q_l57, q_l64, q_l73, q_l118, q_l119, q_l120, q_l122, q_l126, q_l160, q_l256, q_l365, q_l372, q_l438, q_l1000, q_l100000, q_l1000000, q_modF hL.2.2.2.2.2.2.1, a1, a2, c0]
  | succ d ih =>
    intro σ i h hp hd
    obtain ⟨a1, a2, a3⟩ := z_pl h hp (by omega)
    obtain ⟨b1, b2, b3⟩ := a3 (by clear a1 a2 a3; omega)
    have hi : i < L := by clear a1 a2 a3; omega
    have c0 : ¬ (L : Int) ≤ (i : Int) := by clear a1 a2 a3; omega
    obtain ⟨g1, g2, g3⟩ := z_sgb h hi
    have e32 : w32 32 = 32 := by decide
    by_cases c : w_sg X L i = 32
    · have hs : w_skf X L (d + 1) i = w_skf X L d (i + 1) := by
        show (if w_sg X L i = 32 then w_skf X L d (i + 1) else i) = _
        rw [if_pos c]
      have hu : m_up2 σ 191 23 ((i : Int) + 1) = m_up2 σ 191 23 ((i + 1 : Nat) : Int) := rfl
      have ih1 := ih (m_up2 σ 191 23 ((i + 1 : Nat) : Int)) (i + 1) (z_txt_p h z_fp_23) m_up2_at (by clear a1 a2 a3 g2 e32; omega)
      rw [m_up2_2] at ih1
      rw [hs]
      refine Eq.trans ?_ ih1
      conv => lhs; simp only [b_239_0, ↓reduceIte, Nat.reduceEqDiff, Nat.reduceMul, q_n10, q_n01, Option.bind_some, g_aft0, g_aft1, g_aft2, g_aft3, g_aft9, Nat.reduceAdd, m_kill_0, m_kill_2, m_kill_3, m_kill_4, m_kill_9, true_or, or_true, q_lm1, q_l0, q_l1, q_l2, q_l3, q_l4, q_l5, q_l6, q_l8, q_l9, q_l10, q_l12, q_l17, q_l32, q_l35, q_l48, q_l50, q_l54, q_l57, q_l64, q_l73, q_l118, q_l119, q_l120, q_l122, q_l126, q_l160, q_l256, q_l365, q_l372, q_l438, q_l1000, q_l100000, q_l1000000, q_modF hL.2.2.2.2.2.2.1, a1, a2, c0]
      have hc' : (w_sg X L i = 32) = True := eq_true c
      have wi : w32 (i : Int) = (i : Int) := by rw [← hp]; exact a2.trans hp.symm
      conv => lhs; simp only [b_239_11, b_239_25, ↓reduceIte, Nat.reduceEqDiff, Nat.reduceMul, q_n10, q_n01, Option.bind_some, g_aft0, g_aft1, g_aft2, g_aft3, g_aft9, Nat.reduceAdd, m_kill_0, m_kill_2, m_kill_3, m_kill_4, m_kill_9, true_or, or_true, q_lm1, q_l0, q_l1, q_l2, q_l3, q_l4, q_l5, q_l6, q_l8, q_l9, q_l10, q_l12, q_l17, q_l32, q_l35, q_l48, q_l50, q_l54, q_l57, q_l64, q_l73, q_l118, q_l119, q_l120, q_l122, q_l126, q_l160, q_l256, q_l365, q_l372, q_l438, q_l1000, q_l100000, q_l1000000, q_modF hL.2.2.2.2.2.2.1, hp, wi, b1, b2, b3, g1, g2, hc', e32]
      rfl
    · have hs : w_skf X L (d + 1) i = i := by
        show (if w_sg X L i = 32 then w_skf X L d (i + 1) else i) = _
        rw [if_neg c]
      rw [hs]
      have hself : m_up2 σ 191 23 (i : Int) = σ := m_up2_self hp
      rw [hself]
      simp only [b_239_0, b_239_11, b_239_38, b_239_49, ↓reduceIte, Nat.reduceEqDiff, Nat.reduceMul, q_n10, q_n01, Option.bind_some, g_aft0, g_aft1, g_aft2, g_aft3, g_aft9, Nat.reduceAdd, m_kill_0, m_kill_2, m_kill_3, m_kill_4, m_kill_9, true_or, or_true, q_lm1, q_l0, q_l1, q_l2, q_l3, q_l4, q_l5, q_l6, q_l8, q_l9, q_l10, q_l12, q_l17, q_l32, q_l35, q_l48, q_l50, q_l54, q_l57, q_l64, q_l73, q_l118, q_l119, q_l120, q_l122, q_l126, q_l160, q_l256, q_l365, q_l372, q_l438, q_l1000, q_l100000, q_l1000000, q_modF hL.2.2.2.2.2.2.1, a1, a2, c0, b1, b2, b3, g1, g2, c, e32]
theorem z_looking (hL : q_lay K) (h : z_txt σ X L) (hp : σ 191 23 = (i : Int)) (hi : i ≤ L) : m_cl Z 239 [(2, ((191 : Nat) : Int))] (K, σ, 206, e, s) = some (.inl (0, w_sg X L (w_sk X L i)), (K, m_up2 σ 191 23 (w_sk X L i : Int), 206, e, s)) := by
  rw [e_239]
  exact z_look hL (L - i) σ i h hp (by omega)
theorem z_isDigit (hL : q_lay K) (h : z_txt σ X L) (hp : σ 191 23 = (i : Int)) (hi : i ≤ L) : m_cl Z 240 [(2, ((191 : Nat) : Int))] (K, σ, 206, e, s) = some (.inl (0, if w_dg X L i = true then 1 else 0), (K, σ, 206, e, s)) := by
  obtain ⟨a1, a2, a3⟩ := z_pl h hp hi
  by_cases c : i < L
  · obtain ⟨b1, b2, b3⟩ := a3 c
    have c0 : ¬ (L : Int) ≤ (i : Int) := by clear a1 a2 a3; omega
    obtain ⟨g1, g2, g3⟩ := z_sgb h c
    have hw := z_within2 (Z := Z) (h := (K, σ, 206, e, s)) (x := w_sg X L i) (y := 48) (z := 57) g2 (by decide) (by decide)
    have ed : (w_dg X L i = true) = (48 ≤ w_sg X L i ∧ w_sg X L i ≤ 57) := by unfold w_dg; rw [decide_eq_true_eq]
    have n10 : ¬ (1 : Int) = 0 := by decide
    by_cases c1 : 48 ≤ w_sg X L i ∧ w_sg X L i ≤ 57
    · rw [if_pos c1] at hw
      rw [if_pos (by rw [ed]; exact c1)]
      simp only [e_240, b_240_0, b_240_11, b_240_27, b_240_30, b_240_34, b_240_35, ↓reduceIte, Nat.reduceEqDiff, Nat.reduceMul, q_n10, q_n01, Option.bind_some, g_aft0, g_aft1, g_aft2, g_aft3, g_aft9, Nat.reduceAdd, m_kill_0, m_kill_2, m_kill_3, m_kill_4, m_kill_9, true_or, or_true, q_lm1, q_l0, q_l1, q_l2, q_l3, q_l4, q_l5, q_l6, q_l8, q_l9, q_l10, q_l12, q_l17, q_l32, q_l35, q_l48, q_l50, q_l54, q_l57, q_l64, q_l73, q_l118, q_l119, q_l120, q_l122, q_l126, q_l160, q_l256, q_l365, q_l372, q_l438, q_l1000, q_l100000, q_l1000000, q_modF hL.2.2.2.2.2.2.1, a1, a2, c0, b1, b2, b3, g1, hw, n10]
    · rw [if_neg c1] at hw
      rw [if_neg (by rw [ed]; exact c1)]
      simp only [e_240, b_240_0, b_240_11, b_240_27, b_240_30, b_240_34, b_240_35, ↓reduceIte, Nat.reduceEqDiff, Nat.reduceMul, q_n10, q_n01, Option.bind_some, g_aft0, g_aft1, g_aft2, g_aft3, g_aft9, Nat.reduceAdd, m_kill_0, m_kill_2, m_kill_3, m_kill_4, m_kill_9, true_or, or_true, q_lm1, q_l0, q_l1, q_l2, q_l3, q_l4, q_l5, q_l6, q_l8, q_l9, q_l10, q_l12, q_l17, q_l32, q_l35, q_l48, q_l50, q_l54, q_l57, q_l64, q_l73, q_l118, q_l119, q_l120, q_l122, q_l126, q_l160, q_l256, q_l365, q_l372, q_l438, q_l1000, q_l100000, q_l1000000, q_modF hL.2.2.2.2.2.2.1, a1, a2, c0, b1, b2, b3, g1, hw, true_or]
  · have c0 : (L : Int) ≤ (i : Int) := by clear a1 a2 a3; omega
    have e0 : ¬ w_dg X L i = true := by
      intro q
      have := (w_dg_lt q).1
      clear a1 a2 a3; omega
    rw [if_neg e0]
    simp only [e_240, b_240_0, b_240_11, b_240_27, b_240_30, b_240_34, b_240_35, ↓reduceIte, Nat.reduceEqDiff, Nat.reduceMul, q_n10, q_n01, Option.bind_some, g_aft0, g_aft1, g_aft2, g_aft3, g_aft9, Nat.reduceAdd, m_kill_0, m_kill_2, m_kill_3, m_kill_4, m_kill_9, true_or, or_true, q_lm1, q_l0, q_l1, q_l2, q_l3, q_l4, q_l5, q_l6, q_l8, q_l9, q_l10, q_l12, q_l17, q_l32, q_l35, q_l48, q_l50, q_l54, q_l57, q_l64, q_l73, q_l118, q_l119, q_l120, q_l122, q_l126, q_l160, q_l256, q_l365, q_l372, q_l438, q_l1000, q_l100000, q_l1000000, q_modF hL.2.2.2.2.2.2.1, a1, a2, c0, true_or]
theorem z_fails1 (hL : q_lay K) (h : σ 191 24 = -1) : m_cl Z 242 [(2, ((191 : Nat) : Int))] (K, σ, 206, e, s) = some (.inl (9, 0), (K, m_up2 σ 191 24 (σ 191 23), 206, e, s)) := by
  have wm : w32 (-1) = -1 := by decide
  simp only [e_242, b_242_0, b_242_9, b_242_16, b_242_20, ↓reduceIte, Nat.reduceEqDiff, Nat.reduceMul, q_n10, q_n01, Option.bind_some, g_aft0, g_aft1, g_aft2, g_aft3, g_aft9, Nat.reduceAdd, m_kill_0, m_kill_2, m_kill_3, m_kill_4, m_kill_9, true_or, or_true, q_lm1, q_l0, q_l1, q_l2, q_l3, q_l4, q_l5, q_l6, q_l8, q_l9, q_l10, q_l12, q_l17, q_l32, q_l35, q_l48, q_l50, q_l54, q_l57, q_l64, q_l73, q_l118, q_l119, q_l120, q_l122, q_l126, q_l160, q_l256, q_l365, q_l372, q_l438, q_l1000, q_l100000, q_l1000000, q_modF hL.2.2.2.2.2.2.1, h, wm]
theorem z_fails2 (hL : q_lay K) (h : σ 191 24 = (j : Int)) (hj : j ≤ 120) : m_cl Z 242 [(2, ((191 : Nat) : Int))] (K, σ, 206, e, s) = some (.inl (9, 0), (K, σ, 206, e, s)) := by
  have wm : w32 (-1) = -1 := by decide
  have wj : w32 (j : Int) = (j : Int) := q_w (by clear wm; omega)
  have cj : ¬ (j : Int) = -1 := by clear wm wj; omega
  have hs : m_up2 σ 191 24 (j : Int) = σ := m_up2_self h
  simp only [e_242, b_242_0, b_242_9, b_242_16, b_242_20, ↓reduceIte, Nat.reduceEqDiff, Nat.reduceMul, q_n10, q_n01, Option.bind_some, g_aft0, g_aft1, g_aft2, g_aft3, g_aft9, Nat.reduceAdd, m_kill_0, m_kill_2, m_kill_3, m_kill_4, m_kill_9, true_or, or_true, q_lm1, q_l0, q_l1, q_l2, q_l3, q_l4, q_l5, q_l6, q_l8, q_l9, q_l10, q_l12, q_l17, q_l32, q_l35, q_l48, q_l50, q_l54, q_l57, q_l64, q_l73, q_l118, q_l119, q_l120, q_l122, q_l126, q_l160, q_l256, q_l365, q_l372, q_l438, q_l1000, q_l100000, q_l1000000, q_modF hL.2.2.2.2.2.2.1, h, wm, wj, cj, hs]
/-- a number and the sign behind it -/
theorem z_pair2 {x : Bool × Nat × List Int} {c : Nat} (hL : q_lay K) (h : z_txt σ X L) (hx : z_pst σ L x) (hc : c = 58 ∨ c = 61 ∨ c = 45 ∨ c = 59) : ∃ (v : Int) (σ' σ2 : Nat → Nat → Int), m_cl Z 241 [(2, ((191 : Nat) : Int))] (K, σ, 206, e, s) = some (.inl (0, v), (K, σ', 206, e, s)) ∧ m_cl Z 243 [(2, ((191 : Nat) : Int)), (0, (c : Int))] (K, σ', 206, e, s) = some (.inl (9, 0), (K, σ2, 206, e, s)) ∧ z_fp σ σ' ∧ z_fp σ σ2 ∧ z_pst σ2 L (w_ptc X L [35, c] x) ∧ ((w_ptc X L [35, c] x).1 = true → (w_ptc X L [35, c] x).2.2 = x.2.2 ++ [v]) := by
  have hL120 := h.2.1
  obtain ⟨hxl, hx24, i, hi, hp, hxi⟩ := hx
  have wm : w32 (-1) = -1 := by decide
  have n10 : ¬ (1 : Int) = 0 := by decide
  have wc : w32 (c : Int) = (c : Int) := q_w (by clear wm; omega)
  have hlook := z_looking (Z := Z) (e := e) (s := s) hL h hp hi
  have hsk := w_sk_le (X := X) hi
  obtain ⟨b, m, l⟩ := x
  by_cases hb : b = true
  · subst hb
    have him : i = m := hxi rfl
    subst him
    rw [if_pos rfl] at hx24
    obtain ⟨I, hI⟩ : ∃ I, I = w_sk X L i := ⟨_, rfl⟩
    rw [← hI] at hlook hsk
    obtain ⟨τ, hτ⟩ : ∃ τ, τ = m_up2 σ 191 23 (I : Int) := ⟨_, rfl⟩
    rw [← hτ] at hlook
    have fτ : z_fp σ τ := by rw [hτ]; exact z_fp_23
    have t24 : τ 191 24 = -1 := by rw [hτ, m_up2_nk (by omega)]; exact hx24
    have t23 : τ 191 23 = (I : Int) := by rw [hτ, m_up2_at]
    have hdig := z_isDigit (Z := Z) (e := e) (s := s) hL (z_txt_p h fτ) t23 hsk.2
    have ept : w_ptc X L [35, c] (true, i, l) = (if (w_nd X L I).1 = true then (if w_sg X L (w_sk X L (w_nd X L I).2.1) = (c : Int) then (true, w_sk X L (w_nd X L I).2.1 + 1, l ++ [(w_nd X L I).2.2]) else (false, w_sk X L (w_nd X L I).2.1, l ++ [(w_nd X L I).2.2])) else (false, (w_nd X L I).2.1, l)) := by
      show w_pt X L [35, c] i l = _
      have hc35 : ¬ c = 35 := by clear wm wc; omega
      unfold w_pt
      rw [if_pos rfl, w_nm_nd, ← hI]
      unfold w_pt
      rw [if_neg hc35]
      rfl
    by_cases d1 : w_dg X L I = true
    · rw [if_pos d1] at hdig
      obtain ⟨l1, l2, l3⟩ := w_dg_lt d1
      obtain ⟨g1, g2, g3⟩ := z_sgb (z_txt_p h fτ) l1
      have wI : w32 (I : Int) = (I : Int) := q_w (by clear wm wc g2; omega)
      have p0 : 0 ≤ (I : Int) := by clear wm wc g2 wI; omega
      have p1 : (I : Int) < ((120 : Nat) : Int) := by clear wm wc g2 wI; omega
      have pn : ((I : Int)).toNat = I := rfl
      -- behind the first digit
      obtain ⟨τ2, hτ2⟩ : ∃ τ2, τ2 = m_up2 τ 191 23 ((I : Int) + 1) := ⟨_, rfl⟩
      have f2 : z_fp σ τ2 := z_fp_t fτ (by rw [hτ2]; exact z_fp_23)
      have t2_23 : τ2 191 23 = ((I + 1 : Nat) : Int) := by rw [hτ2, m_up2_at]; rfl
      have t2_24 : τ2 191 24 = -1 := by rw [hτ2, m_up2_nk (by omega)]; exact t24
      have hdig2 := z_isDigit (Z := Z) (e := e) (s := s) hL (z_txt_p h f2) t2_23 (by clear wm wc g2 wI; omega)
      -- the number: place, value, the state behind it
      obtain ⟨J, v, ρ, hJ, hJL, hnd, fρ, r23, r24, hrun⟩ : ∃ (J : Nat) (v : Int) (ρ : Nat → Nat → Int), I < J ∧ J ≤ L ∧ w_nd X L I = (true, J, v) ∧ z_fp σ ρ ∧ ρ 191 23 = (J : Int) ∧ ρ 191 24 = -1 ∧ m_cl Z 241 [(2, ((191 : Nat) : Int))] (K, σ, 206, e, s) = m_run Z (241, 84, [(2, ((191 : Nat) : Int)), (0, v)], [], (K, ρ, 206, e, s)) := by
        by_cases d2 : w_dg X L (I + 1) = true
        · rw [if_pos d2] at hdig2
          obtain ⟨l1', l2', l3'⟩ := w_dg_lt d2
          obtain ⟨g1', g2', g3'⟩ := z_sgb (z_txt_p h f2) l1'
          have wI1 : w32 ((I + 1 : Nat) : Int) = ((I + 1 : Nat) : Int) := q_w (by clear wm wc g2 wI g2'; omega)
          have p0' : 0 ≤ ((I + 1 : Nat) : Int) := by clear wm wc g2 wI g2' wI1; omega
          have p1' : ((I + 1 : Nat) : Int) < ((120 : Nat) : Int) := by clear wm wc g2 wI g2' wI1; omega
          have pn' : (((I + 1 : Nat) : Int)).toNat = I + 1 := rfl
          refine ⟨I + 2, (w_sg X L I - 48) * 10 + (w_sg X L (I + 1) - 48), m_up2 τ2 191 23 (((I + 1 : Nat) : Int) + 1), by clear wm wc g2 wI g2' wI1; omega, by clear wm wc g2 wI g2' wI1; omega, ?_, z_fp_t f2 z_fp_23, by rw [m_up2_at]; rfl, by rw [m_up2_nk (by omega)]; exact t2_24, ?_⟩
          · unfold w_nd
            rw [if_pos d1, if_pos d2]
          · have ev : 10 * (w_sg X L I - 48) + w_sg X L (I + 1) - 48 = (w_sg X L I - 48) * 10 + (w_sg X L (I + 1) - 48) := by clear wm wc g2 wI g2' wI1; omega
            simp only [e_241, b_241_0, b_241_4, b_241_13, b_241_17, b_241_26, b_241_53, b_241_56, ↓reduceIte, Nat.reduceEqDiff, Nat.reduceMul, q_n10, q_n01, Option.bind_some, g_aft0, g_aft1, g_aft2, g_aft3, g_aft9, Nat.reduceAdd, m_kill_0, m_kill_2, m_kill_3, m_kill_4, m_kill_9, true_or, or_true, q_lm1, q_l0, q_l1, q_l2, q_l3, q_l4, q_l5, q_l6, q_l8, q_l9, q_l10, q_l12, q_l17, q_l32, q_l35, q_l48, q_l50, q_l54, q_l57, q_l64, q_l73, q_l118, q_l119, q_l120, q_l122, q_l126, q_l160, q_l256, q_l365, q_l372, q_l438, q_l1000, q_l100000, q_l1000000, q_modF hL.2.2.2.2.2.2.1, hlook, t24, wm, hdig, n10, t23, wI, p0, p1, pn, g1, ← hτ2, hdig2, t2_23, wI1, p0', p1', pn', g1', ev]
        · rw [if_neg d2] at hdig2
          refine ⟨I + 1, w_sg X L I - 48, τ2, by clear wm wc g2 wI; omega, by clear wm wc g2 wI; omega, ?_, f2, t2_23, t2_24, ?_⟩
          · unfold w_nd
            rw [if_pos d1, if_neg d2]
          · simp only [e_241, b_241_0, b_241_4, b_241_13, b_241_17, b_241_26, b_241_53, ↓reduceIte, Nat.reduceEqDiff, Nat.reduceMul, q_n10, q_n01, Option.bind_some, g_aft0, g_aft1, g_aft2, g_aft3, g_aft9, Nat.reduceAdd, m_kill_0, m_kill_2, m_kill_3, m_kill_4, m_kill_9, true_or, or_true, q_lm1, q_l0, q_l1, q_l2, q_l3, q_l4, q_l5, q_l6, q_l8, q_l9, q_l10, q_l12, q_l17, q_l32, q_l35, q_l48, q_l50, q_l54, q_l57, q_l64, q_l73, q_l118, q_l119, q_l120, q_l122, q_l126, q_l160, q_l256, q_l365, q_l372, q_l438, q_l1000, q_l100000, q_l1000000, q_modF hL.2.2.2.2.2.2.1, hlook, t24, wm, hdig, n10, t23, wI, p0, p1, pn, g1, ← hτ2, hdig2]
      rw [hnd] at ept
      dsimp only at ept
      rw [if_pos rfl] at ept
      have hdJ := z_isDigit (Z := Z) (e := e) (s := s) hL (z_txt_p h fρ) r23 hJL
      have hJs := w_sk_le (X := X) hJL
      by_cases d3 : w_dg X L J = true
      · -- a third digit
        rw [if_pos d3] at hdJ
        obtain ⟨m1, m2, m3⟩ := w_dg_lt d3
        have hskJ : w_sk X L J = J := by
          unfold w_sk
          obtain ⟨dd, hdd⟩ : ∃ dd, L - J = dd + 1 := ⟨L - J - 1, by clear wm wc g2 wI; omega⟩
          rw [hdd]
          show (if w_sg X L J = 32 then _ else J) = J
          rw [if_neg (by clear wm wc g2 wI; omega)]
        rw [hskJ, if_neg (by clear wm wc g2 wI; omega)] at ept
        have hf := z_fails1 (Z := Z) (e := e) (s := s) hL r24
        rw [r23] at hf
        have t24' : m_up2 ρ 191 24 (J : Int) 191 24 = (J : Int) := m_up2_at
        have hf2 := z_fails2 (Z := Z) (e := e) (s := s) (σ := m_up2 ρ 191 24 (J : Int)) hL t24' (by clear wm wc g2 wI; omega)
        have wJ : w32 (J : Int) = (J : Int) := q_w (by clear wm wc g2 wI; omega)
        have cJ : ¬ (J : Int) = -1 := by clear wm wc g2 wI wJ; omega
        refine ⟨v, m_up2 ρ 191 24 (J : Int), m_up2 ρ 191 24 (J : Int), ?_, ?_, z_fp_t fρ z_fp_24, z_fp_t fρ z_fp_24, ?_, ?_⟩
        · rw [hrun]
          simp only [b_241_84, b_241_88, b_241_91, b_241_95, ↓reduceIte, Nat.reduceEqDiff, Nat.reduceMul, q_n10, q_n01, Option.bind_some, g_aft0, g_aft1, g_aft2, g_aft3, g_aft9, Nat.reduceAdd, m_kill_0, m_kill_2, m_kill_3, m_kill_4, m_kill_9, true_or, or_true, q_lm1, q_l0, q_l1, q_l2, q_l3, q_l4, q_l5, q_l6, q_l8, q_l9, q_l10, q_l12, q_l17, q_l32, q_l35, q_l48, q_l50, q_l54, q_l57, q_l64, q_l73, q_l118, q_l119, q_l120, q_l122, q_l126, q_l160, q_l256, q_l365, q_l372, q_l438, q_l1000, q_l100000, q_l1000000, q_modF hL.2.2.2.2.2.2.1, hdJ, n10, hf]
        · simp only [e_243, b_243_0, b_243_8, b_243_12, b_243_16, b_243_29, b_243_33, ↓reduceIte, Nat.reduceEqDiff, Nat.reduceMul, q_n10, q_n01, Option.bind_some, g_aft0, g_aft1, g_aft2, g_aft3, g_aft9, Nat.reduceAdd, m_kill_0, m_kill_2, m_kill_3, m_kill_4, m_kill_9, true_or, or_true, q_lm1, q_l0, q_l1, q_l2, q_l3, q_l4, q_l5, q_l6, q_l8, q_l9, q_l10, q_l12, q_l17, q_l32, q_l35, q_l48, q_l50, q_l54, q_l57, q_l64, q_l73, q_l118, q_l119, q_l120, q_l122, q_l126, q_l160, q_l256, q_l365, q_l372, q_l438, q_l1000, q_l100000, q_l1000000, q_modF hL.2.2.2.2.2.2.1, t24', wm, wJ, cJ, hf2]
        · rw [ept]
          refine ⟨hJL, ?_, J, hJL, by rw [m_up2_nk (by omega)]; exact r23, fun q => absurd q Bool.false_ne_true⟩
          rw [if_neg Bool.false_ne_true]
          exact m_up2_at
        · intro q
          rw [ept] at q
          exact absurd q Bool.false_ne_true
      · rw [if_neg d3] at hdJ
        have hlk := z_looking (Z := Z) (e := e) (s := s) hL (z_txt_p h fρ) r23 hJL
        have hnum : m_cl Z 241 [(2, ((191 : Nat) : Int))] (K, σ, 206, e, s) = some (.inl (0, v), (K, ρ, 206, e, s)) := by
          rw [hrun]
          simp only [b_241_84, b_241_88, b_241_95, ↓reduceIte, Nat.reduceEqDiff, Nat.reduceMul, q_n10, q_n01, Option.bind_some, g_aft0, g_aft1, g_aft2, g_aft3, g_aft9, Nat.reduceAdd, m_kill_0, m_kill_2, m_kill_3, m_kill_4, m_kill_9, true_or, or_true, q_lm1, q_l0, q_l1, q_l2, q_l3, q_l4, q_l5, q_l6, q_l8, q_l9, q_l10, q_l12, q_l17, q_l32, q_l35, q_l48, q_l50, q_l54, q_l57, q_l64, q_l73, q_l118, q_l119, q_l120, q_l122, q_l126, q_l160, q_l256, q_l365, q_l372, q_l438, q_l1000, q_l100000, q_l1000000, q_modF hL.2.2.2.2.2.2.1, hdJ]
        obtain ⟨Q, hQ⟩ : ∃ Q, Q = w_sk X L J := ⟨_, rfl⟩
        rw [← hQ] at hlk ept hJs
        have gQ : w32 (w_sg X L Q) = w_sg X L Q := by
          by_cases hql : Q < L
          · exact (z_sgb h hql).2.1
          · unfold w_sg
            rw [if_neg hql]
            decide
        have u23 : m_up2 ρ 191 23 (Q : Int) 191 23 = (Q : Int) := m_up2_at
        have u24 : m_up2 ρ 191 23 (Q : Int) 191 24 = -1 := by rw [m_up2_nk (by omega)]; exact r24
        by_cases d4 : w_sg X L Q = (c : Int)
        · rw [if_pos d4] at ept
          have hQL : Q < L := by
            refine Classical.byContradiction (fun hql => ?_)
            unfold w_sg at d4
            rw [if_neg hql] at d4
            clear wm wc g2 wI gQ; omega
          refine ⟨v, ρ, m_up2 (m_up2 ρ 191 23 (Q : Int)) 191 23 ((Q : Int) + 1), hnum, ?_, fρ, z_fp_t fρ (z_fp_t z_fp_23 z_fp_23), ?_, ?_⟩
          · have d4' : (w_sg X L Q = (c : Int)) = True := eq_true d4
            simp only [e_243, b_243_0, b_243_8, b_243_12, b_243_16, b_243_29, b_243_33, ↓reduceIte, Nat.reduceEqDiff, Nat.reduceMul, q_n10, q_n01, Option.bind_some, g_aft0, g_aft1, g_aft2, g_aft3, g_aft9, Nat.reduceAdd, m_kill_0, m_kill_2, m_kill_3, m_kill_4, m_kill_9, true_or, or_true, q_lm1, q_l0, q_l1, q_l2, q_l3, q_l4, q_l5, q_l6, q_l8, q_l9, q_l10, q_l12, q_l17, q_l32, q_l35, q_l48, q_l50, q_l54, q_l57, q_l64, q_l73, q_l118, q_l119, q_l120, q_l122, q_l126, q_l160, q_l256, q_l365, q_l372, q_l438, q_l1000, q_l100000, q_l1000000, q_modF hL.2.2.2.2.2.2.1, r24, wm, hlk, gQ, wc, d4', u23]
          · rw [ept]
            refine ⟨hQL, ?_, Q + 1, hQL, by rw [m_up2_at]; rfl, fun _ => rfl⟩
            rw [if_pos rfl, m_up2_nk (by omega)]
            exact u24
          · intro _
            rw [ept]
        · rw [if_neg d4] at ept
          have hf := z_fails1 (Z := Z) (e := e) (s := s) hL u24
          rw [u23] at hf
          refine ⟨v, ρ, m_up2 (m_up2 ρ 191 23 (Q : Int)) 191 24 (Q : Int), hnum, ?_, fρ, z_fp_t fρ (z_fp_t z_fp_23 z_fp_24), ?_, ?_⟩
          · simp only [e_243, b_243_0, b_243_8, b_243_12, b_243_16, b_243_29, b_243_33, ↓reduceIte, Nat.reduceEqDiff, Nat.reduceMul, q_n10, q_n01, Option.bind_some, g_aft0, g_aft1, g_aft2, g_aft3, g_aft9, Nat.reduceAdd, m_kill_0, m_kill_2, m_kill_3, m_kill_4, m_kill_9, true_or, or_true, q_lm1, q_l0, q_l1, q_l2, q_l3, q_l4, q_l5, q_l6, q_l8, q_l9, q_l10, q_l12, q_l17, q_l32, q_l35, q_l48, q_l50, q_l54, q_l57, q_l64, q_l73, q_l118, q_l119, q_l120, q_l122, q_l126, q_l160, q_l256, q_l365, q_l372, q_l438, q_l1000, q_l100000, q_l1000000, q_modF hL.2.2.2.2.2.2.1, r24, wm, hlk, gQ, wc, d4, hf]
          · rw [ept]
            refine ⟨hJs.2, ?_, Q, hJs.2, by rw [m_up2_nk (by omega)]; exact u23, fun q => absurd q Bool.false_ne_true⟩
            rw [if_neg Bool.false_ne_true]
            exact m_up2_at
          · intro q
            rw [ept] at q
            exact absurd q Bool.false_ne_true
    · -- no digit
      rw [if_neg d1] at hdig
      have hnd : w_nd X L I = (false, I, 0) := by unfold w_nd; rw [if_neg d1]
      rw [hnd] at ept
      dsimp only at ept
      rw [if_neg Bool.false_ne_true] at ept
      have hf := z_fails1 (Z := Z) (e := e) (s := s) hL t24
      rw [t23] at hf
      have t24' : m_up2 τ 191 24 (I : Int) 191 24 = (I : Int) := m_up2_at
      have hf2 := z_fails2 (Z := Z) (e := e) (s := s) (σ := m_up2 τ 191 24 (I : Int)) hL t24' (by clear wm wc; omega)
      have wI : w32 (I : Int) = (I : Int) := q_w (by clear wm wc; omega)
      have cI : ¬ (I : Int) = -1 := by clear wm wc wI; omega
      refine ⟨0, m_up2 τ 191 24 (I : Int), m_up2 τ 191 24 (I : Int), ?_, ?_, z_fp_t fτ z_fp_24, z_fp_t fτ z_fp_24, ?_, ?_⟩
      · simp only [e_241, b_241_0, b_241_4, b_241_13, b_241_17, b_241_20, b_241_24, ↓reduceIte, Nat.reduceEqDiff, Nat.reduceMul, q_n10, q_n01, Option.bind_some, g_aft0, g_aft1, g_aft2, g_aft3, g_aft9, Nat.reduceAdd, m_kill_0, m_kill_2, m_kill_3, m_kill_4, m_kill_9, true_or, or_true, q_lm1, q_l0, q_l1, q_l2, q_l3, q_l4, q_l5, q_l6, q_l8, q_l9, q_l10, q_l12, q_l17, q_l32, q_l35, q_l48, q_l50, q_l54, q_l57, q_l64, q_l73, q_l118, q_l119, q_l120, q_l122, q_l126, q_l160, q_l256, q_l365, q_l372, q_l438, q_l1000, q_l100000, q_l1000000, q_modF hL.2.2.2.2.2.2.1, hlook, t24, wm, hdig, hf]
      · simp only [e_243, b_243_0, b_243_8, b_243_12, b_243_16, b_243_29, b_243_33, ↓reduceIte, Nat.reduceEqDiff, Nat.reduceMul, q_n10, q_n01, Option.bind_some, g_aft0, g_aft1, g_aft2, g_aft3, g_aft9, Nat.reduceAdd, m_kill_0, m_kill_2, m_kill_3, m_kill_4, m_kill_9, true_or, or_true, q_lm1, q_l0, q_l1, q_l2, q_l3, q_l4, q_l5, q_l6, q_l8, q_l9, q_l10, q_l12, q_l17, q_l32, q_l35, q_l48, q_l50, q_l54, q_l57, q_l64, q_l73, q_l118, q_l119, q_l120, q_l122, q_l126, q_l160, q_l256, q_l365, q_l372, q_l438, q_l1000, q_l100000, q_l1000000, q_modF hL.2.2.2.2.2.2.1, t24', wm, wI, cI, hf2]
      · rw [ept]
        refine ⟨hsk.2, ?_, I, hsk.2, by rw [m_up2_nk (by omega)]; exact t23, fun q => absurd q Bool.false_ne_true⟩
        rw [if_neg Bool.false_ne_true]
        exact m_up2_at
      · intro q
        rw [ept] at q
        exact absurd q Bool.false_ne_true
  · -- a fault already
    have hb' : b = false := by simpa using hb
    subst hb'
    rw [if_neg Bool.false_ne_true] at hx24
    have hx24 : σ 191 24 = (m : Int) := hx24
    have hm : m ≤ L := hxl
    obtain ⟨I, hI⟩ : ∃ I, I = w_sk X L i := ⟨_, rfl⟩
    rw [← hI] at hlook hsk
    have t24 : m_up2 σ 191 23 (I : Int) 191 24 = (m : Int) := by rw [m_up2_nk (by omega)]; exact hx24
    have hf2 := z_fails2 (Z := Z) (e := e) (s := s) (σ := m_up2 σ 191 23 (I : Int)) hL t24 (by clear wm wc; omega)
    have wmm : w32 (m : Int) = (m : Int) := q_w (by clear wm wc; omega)
    have cm : ¬ (m : Int) = -1 := by clear wm wc wmm; omega
    refine ⟨0, m_up2 σ 191 23 (I : Int), m_up2 σ 191 23 (I : Int), ?_, ?_, z_fp_23, z_fp_23, ?_, fun q => absurd q Bool.false_ne_true⟩
    · simp only [e_241, b_241_0, b_241_4, b_241_20, b_241_24, ↓reduceIte, Nat.reduceEqDiff, Nat.reduceMul, q_n10, q_n01, Option.bind_some, g_aft0, g_aft1, g_aft2, g_aft3, g_aft9, Nat.reduceAdd, m_kill_0, m_kill_2, m_kill_3, m_kill_4, m_kill_9, true_or, or_true, q_lm1, q_l0, q_l1, q_l2, q_l3, q_l4, q_l5, q_l6, q_l8, q_l9, q_l10, q_l12, q_l17, q_l32, q_l35, q_l48, q_l50, q_l54, q_l57, q_l64, q_l73, q_l118, q_l119, q_l120, q_l122, q_l126, q_l160, q_l256, q_l365, q_l372, q_l438, q_l1000, q_l100000, q_l1000000, q_modF hL.2.2.2.2.2.2.1, hlook, t24, wm, wmm, cm, hf2]
    · simp only [e_243, b_243_0, b_243_8, b_243_12, b_243_16, b_243_29, b_243_33, ↓reduceIte, Nat.reduceEqDiff, Nat.reduceMul, q_n10, q_n01, Option.bind_some, g_aft0, g_aft1, g_aft2, g_aft3, g_aft9, Nat.reduceAdd, m_kill_0, m_kill_2, m_kill_3, m_kill_4, m_kill_9, true_or, or_true, q_lm1, q_l0, q_l1, q_l2, q_l3, q_l4, q_l5, q_l6, q_l8, q_l9, q_l10, q_l12, q_l17, q_l32, q_l35, q_l48, q_l50, q_l54, q_l57, q_l64, q_l73, q_l118, q_l119, q_l120, q_l122, q_l126, q_l160, q_l256, q_l365, q_l372, q_l438, q_l1000, q_l100000, q_l1000000, q_modF hL.2.2.2.2.2.2.1, t24, wm, wmm, cm, hf2]
    · refine ⟨hm, ?_, I, hsk.2, m_up2_at, fun q => absurd q Bool.false_ne_true⟩
      show m_up2 σ 191 23 (I : Int) 191 24 = if false = true then -1 else (m : Int)
      rw [if_neg Bool.false_ne_true]
      exact t24
end
end
