section
/-! The model: records. -/
def z_rec (σ : Nat → Nat → Int) (R : Nat → Nat → Nat → Int) (c : Nat) : Prop := σ 191 3 = (c : Int) ∧ c ≤ 6 ∧ ∀ i, i < c → q_wf (R i) ∧ z_row (fun j => σ 193 (73 * i + j)) (R i)
def z_cp (T f : Nat → Int) (B i : Nat) : Nat → Int := fun j => if B ≤ j ∧ j < B + i then f (j - B) else T j
theorem z_cp_0 {T f : Nat → Int} {B : Nat} : z_cp T f B 0 = T := by
  funext j
  unfold z_cp
  rw [if_neg (by omega)]
theorem z_cp_s {T f : Nat → Int} {B i : Nat} : m_up (z_cp T f B i) (B + i) (f i) = z_cp T f B (i + 1) := by
  funext j
  rw [m_upf]
  unfold z_cp
  by_cases h : j = B + i
  · rw [if_pos h, if_pos (by omega), h, Nat.add_sub_cancel_left]
  · rw [if_neg h]
    by_cases h2 : B ≤ j ∧ j < B + i
    · rw [if_pos h2, if_pos (by omega)]
    · rw [if_neg h2, if_neg (by omega)]
theorem z_row_congr {f f' : Nat → Int} {N : Nat → Nat → Int} (hw : q_wf N) (h : z_row f N) (hf : ∀ j, j < 73 → f' j = f j) : z_row f' N := by
  have h1 := (wf_n hw).2.2
  have h2 := (wf_e hw).2
  have h3 := (wf_s hw).2
  obtain ⟨⟨a1, a2, a3⟩, b, d, s⟩ := h
  refine ⟨⟨by rw [hf 0 (by omega)]; exact a1, by rw [hf 17 (by omega)]; exact a2, by rw [hf 54 (by omega)]; exact a3⟩, fun j hj => ?_, fun j hj => ?_, fun j hj => ?_⟩
  · rw [hf _ (by omega), hf _ (by omega)]; exact b j hj
  · rw [hf _ (by omega), hf _ (by omega), hf _ (by omega)]; exact d j hj
  · rw [hf _ (by omega), hf _ (by omega), hf _ (by omega)]; exact s j hj
theorem q_fill_ge {σ : Nat → Nat → Int} {c L j : Nat} {f : Nat → Int} (h : L ≤ j) : q_fill σ c L f c j = σ c j := by
  unfold q_fill
  rw [if_neg (by omega)]
section
variable {Z : mZ} {K : Nat → mK} {σ τ N M : Nat → Nat → Int} {e g i L n c k a p s : Nat} {t q v b x y z w u S : Int} {X : Nat → Int} {h : mH} {R : Nat → Nat → Nat → Int}
theorem z_push {d : Nat} {l1 : mV} (hL : q_lay K) (hd : σ 191 3 = (d : Int)) (hd6 : d < 6) : m_run Z (154, 49, [(2, ((191 : Nat) : Int)), l1], [], (K, σ, 206, e, s)) = some (.inl (9, 0), (K, m_up2 (q_put σ 193 (z_cp (σ 193) (σ 192) (73 * d) 73)) 191 3 ((d + 1 : Nat) : Int), 206, e, s)) := by
  have lp := q_loopf (Z := Z) (N := 73) (S := fun i => (154, 51, [(2, ((191 : Nat) : Int)), (0, (i : Int))], [], (K, q_put σ 193 (z_cp (σ 193) (σ 192) (73 * d) i), 206, e, s))) (by
    intro i hi
    have wi : w32 (i : Int) = (i : Int) := q_w (by omega)
    have w2 : w32 (73 * (d : Int) + (i : Int)) = 73 * (d : Int) + (i : Int) := by clear wi; exact q_wi (by omega) (by omega)
    have c0 : ¬ (73 : Int) ≤ (i : Int) := by clear wi w2; omega
    have p0 : 0 ≤ (i : Int) := by clear wi w2; omega
    have p1 : (i : Int) < ((73 : Nat) : Int) := by clear wi w2; omega
    have p2 : 0 ≤ 73 * (d : Int) + (i : Int) := by clear wi w2; omega
    have p3 : 73 * (d : Int) + (i : Int) < ((438 : Nat) : Int) := by clear wi w2; omega
    have tn : ((i : Int)).toNat = i := rfl
    have t2 : (73 * (d : Int) + (i : Int)).toNat = 73 * d + i := by clear wi w2; omega
    have e1 : ((i + 1 : Nat) : Int) = (i : Int) + 1 := rfl
    have h3 : q_put σ 193 (z_cp (σ 193) (σ 192) (73 * d) i) 191 3 = (d : Int) := by rw [q_put_ne (by omega)]; exact hd
    have h0 : q_put σ 193 (z_cp (σ 193) (σ 192) (73 * d) i) 192 i = σ 192 i := by rw [q_put_ne (by omega)]
    rw [e1, ← z_cp_s]
    conv => lhs; simp only [b_154_51, ↓reduceIte, Nat.reduceEqDiff, Nat.reduceMul, q_n10, q_n01, Option.bind_some, g_aft0, g_aft1, g_aft2, g_aft3, g_aft9, Nat.reduceAdd, m_kill_0, m_kill_2, m_kill_3, m_kill_4, m_kill_9, true_or, or_true, q_lm1, q_l0, q_l1, q_l2, q_l3, q_l4, q_l5, q_l6, q_l8, q_l9, q_l10, q_l12, q_l17, q_l32, q_l35, q_l48, q_l50, q_l54, q_l57, q_l64, q_l73, q_l118, q_l119, q_l120, q_l122, q_l126, q_l160, q_l256, q_l365, q_l372, q_l438, q_l1000, q_l100000, q_l1000000, wi, c0]
    simp only [b_154_57, ↓reduceIte, Nat.reduceEqDiff, Nat.reduceMul, q_n10, q_n01, Option.bind_some, g_aft0, g_aft1, g_aft2, g_aft3, g_aft9, Nat.reduceAdd, m_kill_0, m_kill_2, m_kill_3, m_kill_4, m_kill_9, true_or, or_true, q_lm1, q_l0, q_l1, q_l2, q_l3, q_l4, q_l5, q_l6, q_l8, q_l9, q_l10, q_l12, q_l17, q_l32, q_l35, q_l48, q_l50, q_l54, q_l57, q_l64, q_l73, q_l118, q_l119, q_l120, q_l122, q_l126, q_l160, q_l256, q_l365, q_l372, q_l438, q_l1000, q_l100000, q_l1000000, q_modF hL.2.2.2.2.2.2.1, wi, h3, w2, p0, p1, p2, p3, tn, t2, h0]
    rw [q_up_pt])
  have w73 : w32 ((73 : Nat) : Int) = 73 := by decide
  have w73' : w32 73 = 73 := by decide
  have e0 : q_put σ 193 (z_cp (σ 193) (σ 192) (73 * d) 0) = σ := by rw [z_cp_0, q_put_self]
  have h3 : q_put σ 193 (z_cp (σ 193) (σ 192) (73 * d) 73) 191 3 = (d : Int) := by rw [q_put_ne (by omega)]; exact hd
  have e1 : (d : Int) + 1 = ((d + 1 : Nat) : Int) := rfl
  rw [e0] at lp
  rw [b_154_49]
  refine Eq.trans lp ?_
  conv => lhs; simp only [b_154_51, ↓reduceIte, Nat.reduceEqDiff, Nat.reduceMul, q_n10, q_n01, Option.bind_some, g_aft0, g_aft1, g_aft2, g_aft3, g_aft9, Nat.reduceAdd, m_kill_0, m_kill_2, m_kill_3, m_kill_4, m_kill_9, true_or, or_true, q_lm1, q_l0, q_l1, q_l2, q_l3, q_l4, q_l5, q_l6, q_l8, q_l9, q_l10, q_l12, q_l17, q_l32, q_l35, q_l48, q_l50, q_l54, q_l57, q_l64, q_l73, q_l118, q_l119, q_l120, q_l122, q_l126, q_l160, q_l256, q_l365, q_l372, q_l438, q_l1000, q_l100000, q_l1000000, w73, w73', Int.le_refl]
  simp only [b_154_83, ↓reduceIte, Nat.reduceEqDiff, Nat.reduceMul, q_n10, q_n01, Option.bind_some, g_aft0, g_aft1, g_aft2, g_aft3, g_aft9, Nat.reduceAdd, m_kill_0, m_kill_2, m_kill_3, m_kill_4, m_kill_9, true_or, or_true, q_lm1, q_l0, q_l1, q_l2, q_l3, q_l4, q_l5, q_l6, q_l8, q_l9, q_l10, q_l12, q_l17, q_l32, q_l35, q_l48, q_l50, q_l54, q_l57, q_l64, q_l73, q_l118, q_l119, q_l120, q_l122, q_l126, q_l160, q_l256, q_l365, q_l372, q_l438, q_l1000, q_l100000, q_l1000000, q_modF hL.2.2.2.2.2.2.1, h3, e1]
theorem z_saves (hL : q_lay K) (hn : z_n σ N) (hr : z_rec σ R c) : ∃ τ, m_cl Z 154 [(2, ((191 : Nat) : Int))] (K, σ, 206, e, s) = some (.inl (9, 0), (K, τ, 206, e, s)) ∧ z_rec τ (w_pR R c N) (w_pc c) ∧ (∀ j, j ≠ 3 → τ 191 j = σ 191 j) ∧ ∀ a, a ≠ 191 → a ≠ 193 → τ a = σ a := by
  obtain ⟨r1, r2, r3⟩ := hr
  have w6 : w32 6 = 6 := by decide
  by_cases hc : c = 6
  · subst hc
    have lp := q_loopf (Z := Z) (N := 365) (S := fun i => (154, 11, [(2, ((191 : Nat) : Int)), (0, (i : Int))], [], (K, q_fill σ 193 i (fun j => σ 193 (j + 73)), 206, e, s))) (by
      intro i hi
      have wi : w32 (i : Int) = (i : Int) := q_w (by clear w6; omega)
      have w2 : w32 ((i : Int) + 73) = (i : Int) + 73 := by clear wi w6; exact q_wi (by omega) (by omega)
      have w365 : w32 365 = 365 := by decide
      have c0 : ¬ (365 : Int) ≤ (i : Int) := by clear wi w2 w6 w365; omega
      have p0 : 0 ≤ (i : Int) := by clear wi w2 w6 w365; omega
      have p1 : (i : Int) < ((438 : Nat) : Int) := by clear wi w2 w6 w365; omega
      have p2 : 0 ≤ (i : Int) + 73 := by clear wi w2 w6 w365; omega
      have p3 : (i : Int) + 73 < ((438 : Nat) : Int) := by clear wi w2 w6 w365; omega
      have tn : ((i : Int)).toNat = i := rfl
      have t2 : ((i : Int) + 73).toNat = i + 73 := by clear wi w2 w6 w365; omega
      have e1 : ((i + 1 : Nat) : Int) = (i : Int) + 1 := rfl
      have h0 : q_fill σ 193 i (fun j => σ 193 (j + 73)) 193 (i + 73) = σ 193 (i + 73) := q_fill_ge (by clear wi w2 w6 w365; omega)
      rw [e1, ← q_fill_s σ 193 i]
      conv => lhs; simp only [b_154_11, ↓reduceIte, Nat.reduceEqDiff, Nat.reduceMul, q_n10, q_n01, Option.bind_some, g_aft0, g_aft1, g_aft2, g_aft3, g_aft9, Nat.reduceAdd, m_kill_0, m_kill_2, m_kill_3, m_kill_4, m_kill_9, true_or, or_true, q_lm1, q_l0, q_l1, q_l2, q_l3, q_l4, q_l5, q_l6, q_l8, q_l9, q_l10, q_l12, q_l17, q_l32, q_l35, q_l48, q_l50, q_l54, q_l57, q_l64, q_l73, q_l118, q_l119, q_l120, q_l122, q_l126, q_l160, q_l256, q_l365, q_l372, q_l438, q_l1000, q_l100000, q_l1000000, wi, w365, c0]
      simp only [b_154_18, ↓reduceIte, Nat.reduceEqDiff, Nat.reduceMul, q_n10, q_n01, Option.bind_some, g_aft0, g_aft1, g_aft2, g_aft3, g_aft9, Nat.reduceAdd, m_kill_0, m_kill_2, m_kill_3, m_kill_4, m_kill_9, true_or, or_true, q_lm1, q_l0, q_l1, q_l2, q_l3, q_l4, q_l5, q_l6, q_l8, q_l9, q_l10, q_l12, q_l17, q_l32, q_l35, q_l48, q_l50, q_l54, q_l57, q_l64, q_l73, q_l118, q_l119, q_l120, q_l122, q_l126, q_l160, q_l256, q_l365, q_l372, q_l438, q_l1000, q_l100000, q_l1000000, q_modF hL.2.2.2.2.2.2.1, wi, w2, p0, p1, p2, p3, tn, t2, h0])
    obtain ⟨σ1, hσ1⟩ : ∃ σ1, σ1 = m_up2 (q_fill σ 193 365 (fun j => σ 193 (j + 73))) 191 3 5 := ⟨_, rfl⟩
    have h5 : σ1 191 3 = ((5 : Nat) : Int) := by rw [hσ1, m_up2_at]; rfl
    have hp := z_push (Z := Z) (e := e) (s := s) (σ := σ1) (l1 := (0, ((365 : Nat) : Int))) hL h5 (by omega)
    have f192 : σ1 192 = σ 192 := by rw [hσ1, m_up2_ne (by omega), q_fill_ne (by omega)]
    refine ⟨m_up2 (q_put σ1 193 (z_cp (σ1 193) (σ1 192) (73 * 5) 73)) 191 3 ((5 + 1 : Nat) : Int), ?_, ⟨m_up2_at, by decide, fun i hi => ?_⟩, fun j hj => ?_, fun a h1 h2 => ?_⟩
    · have e0 : q_fill σ 193 0 (fun j => σ 193 (j + 73)) = σ := q_fill_0 _ _ _
      rw [e0] at lp
      have k1 : σ 191 3 = 6 := r1
      have k2 : q_fill σ 193 365 (fun j => σ 193 (j + 73)) 191 3 = 6 := by rw [q_fill_ne (by omega)]; exact r1
      have k3 : (6 : Int) - 1 = 5 := rfl
      have w365 : w32 365 = 365 := by decide
      have w365' : w32 ((365 : Nat) : Int) = 365 := by decide
      rw [e_154]
      conv => lhs; simp only [b_154_0, ↓reduceIte, Nat.reduceEqDiff, Nat.reduceMul, q_n10, q_n01, Option.bind_some, g_aft0, g_aft1, g_aft2, g_aft3, g_aft9, Nat.reduceAdd, m_kill_0, m_kill_2, m_kill_3, m_kill_4, m_kill_9, true_or, or_true, q_lm1, q_l0, q_l1, q_l2, q_l3, q_l4, q_l5, q_l6, q_l8, q_l9, q_l10, q_l12, q_l17, q_l32, q_l35, q_l48, q_l50, q_l54, q_l57, q_l64, q_l73, q_l118, q_l119, q_l120, q_l122, q_l126, q_l160, q_l256, q_l365, q_l372, q_l438, q_l1000, q_l100000, q_l1000000, q_modF hL.2.2.2.2.2.2.1, k1]
      rw [b_154_9]
      refine Eq.trans lp ?_
      conv => lhs; simp only [b_154_11, ↓reduceIte, Nat.reduceEqDiff, Nat.reduceMul, q_n10, q_n01, Option.bind_some, g_aft0, g_aft1, g_aft2, g_aft3, g_aft9, Nat.reduceAdd, m_kill_0, m_kill_2, m_kill_3, m_kill_4, m_kill_9, true_or, or_true, q_lm1, q_l0, q_l1, q_l2, q_l3, q_l4, q_l5, q_l6, q_l8, q_l9, q_l10, q_l12, q_l17, q_l32, q_l35, q_l48, q_l50, q_l54, q_l57, q_l64, q_l73, q_l118, q_l119, q_l120, q_l122, q_l126, q_l160, q_l256, q_l365, q_l372, q_l438, q_l1000, q_l100000, q_l1000000, w365, w365', Int.le_refl]
      simp only [b_154_39, ↓reduceIte, Nat.reduceEqDiff, Nat.reduceMul, q_n10, q_n01, Option.bind_some, g_aft0, g_aft1, g_aft2, g_aft3, g_aft9, Nat.reduceAdd, m_kill_0, m_kill_2, m_kill_3, m_kill_4, m_kill_9, true_or, or_true, q_lm1, q_l0, q_l1, q_l2, q_l3, q_l4, q_l5, q_l6, q_l8, q_l9, q_l10, q_l12, q_l17, q_l32, q_l35, q_l48, q_l50, q_l54, q_l57, q_l64, q_l73, q_l118, q_l119, q_l120, q_l122, q_l126, q_l160, q_l256, q_l365, q_l372, q_l438, q_l1000, q_l100000, q_l1000000, q_modF hL.2.2.2.2.2.2.1, k2, k3]
      rw [← hσ1]
      exact hp
    · have hi6 : i < 6 := hi
      unfold w_pR
      rw [if_pos rfl]
      by_cases hi5 : i < 5
      · rw [if_pos hi5]
        refine ⟨(r3 (i + 1) (by clear w6; omega)).1, z_row_congr (r3 (i + 1) (by clear w6; omega)).1 (r3 (i + 1) (by clear w6; omega)).2 (fun j hj => ?_)⟩
        show (m_up2 (q_put σ1 193 (z_cp (σ1 193) (σ1 192) (73 * 5) 73)) 191 3 _) 193 (73 * i + j) = σ 193 (73 * (i + 1) + j)
        rw [m_up2_ne (by clear w6; omega), q_put_at]
        unfold z_cp
        rw [if_neg (by clear w6; omega), hσ1, m_up2_ne (by clear w6; omega), q_fill_at (by clear w6; omega), show 73 * i + j + 73 = 73 * (i + 1) + j by clear w6; omega]
      · rw [if_neg hi5]
        refine ⟨hn.1, z_row_congr hn.1 hn.2 (fun j hj => ?_)⟩
        show (m_up2 (q_put σ1 193 (z_cp (σ1 193) (σ1 192) (73 * 5) 73)) 191 3 _) 193 (73 * i + j) = σ 192 j
        rw [m_up2_ne (by clear w6; omega), q_put_at, f192]
        unfold z_cp
        rw [if_pos (by clear w6; omega), show 73 * i + j - 73 * 5 = j by clear w6; omega]
    · rw [m_up2_nk hj, q_put_ne (by omega), hσ1, m_up2_nk hj, q_fill_ne (by omega)]
    · rw [m_up2_ne h1, q_put_ne h2, hσ1, m_up2_ne h1, q_fill_ne h2]
  · have hp := z_push (Z := Z) (e := e) (s := s) (σ := σ) (l1 := (9, 0)) hL r1 (by clear w6; omega)
    have hpc : w_pc c = c + 1 := by unfold w_pc; rw [if_neg hc]
    refine ⟨m_up2 (q_put σ 193 (z_cp (σ 193) (σ 192) (73 * c) 73)) 191 3 ((c + 1 : Nat) : Int), ?_, ⟨by rw [hpc]; exact m_up2_at, by rw [hpc]; clear w6; omega, fun i hi => ?_⟩, fun j hj => by rw [m_up2_nk hj, q_put_ne (by omega)], fun a h1 h2 => by rw [m_up2_ne h1, q_put_ne h2]⟩
    · have wc : w32 (c : Int) = (c : Int) := q_w (by clear w6; omega)
      have c6 : ¬ (c : Int) = 6 := by clear w6 wc; omega
      rw [e_154]
      conv => lhs; simp only [b_154_0, ↓reduceIte, Nat.reduceEqDiff, Nat.reduceMul, q_n10, q_n01, Option.bind_some, g_aft0, g_aft1, g_aft2, g_aft3, g_aft9, Nat.reduceAdd, m_kill_0, m_kill_2, m_kill_3, m_kill_4, m_kill_9, true_or, or_true, q_lm1, q_l0, q_l1, q_l2, q_l3, q_l4, q_l5, q_l6, q_l8, q_l9, q_l10, q_l12, q_l17, q_l32, q_l35, q_l48, q_l50, q_l54, q_l57, q_l64, q_l73, q_l118, q_l119, q_l120, q_l122, q_l126, q_l160, q_l256, q_l365, q_l372, q_l438, q_l1000, q_l100000, q_l1000000, q_modF hL.2.2.2.2.2.2.1, r1, wc, c6]
      exact hp
    · rw [hpc] at hi
      unfold w_pR
      rw [if_neg hc]
      by_cases hic : i = c
      · subst hic
        rw [if_pos rfl]
        refine ⟨hn.1, z_row_congr hn.1 hn.2 (fun j hj => ?_)⟩
        show (m_up2 (q_put σ 193 (z_cp (σ 193) (σ 192) (73 * i) 73)) 191 3 _) 193 (73 * i + j) = σ 192 j
        rw [m_up2_ne (by clear w6; omega), q_put_at]
        unfold z_cp
        rw [if_pos (by clear w6; omega), show 73 * i + j - 73 * i = j by clear w6; omega]
      · rw [if_neg hic]
        refine ⟨(r3 i (by clear w6; omega)).1, z_row_congr (r3 i (by clear w6; omega)).1 (r3 i (by clear w6; omega)).2 (fun j hj => ?_)⟩
        show (m_up2 (q_put σ 193 (z_cp (σ 193) (σ 192) (73 * c) 73)) 191 3 _) 193 (73 * i + j) = σ 193 (73 * i + j)
        rw [m_up2_ne (by clear w6; omega), q_put_at]
        unfold z_cp
        rw [if_neg (by clear w6; omega)]
end
end
