section
/-! The model: commands. -/
section
variable {Z : mZ} {K : Nat → mK} {σ τ N M : Nat → Nat → Int} {e g i j L n c k s a : Nat} {t p q v x y z w u S : Int} {X : Nat → Int} {h : mH} {R : Nat → Nat → Nat → Int} {T : Nat → Int}
theorem z_isDone {kd cc : Int} (hL : q_lay K) (h : z_n σ N) (hk : kd = 119 ∧ cc = 119 ∨ kd = 118 ∧ cc = 118 ∨ kd = 120 ∧ cc = 120 ∨ kd = 35 ∧ cc = 0) (hx : 0 ≤ x ∧ x ≤ 99) (hy : 0 ≤ y ∧ y ≤ 99) (hz : 0 ≤ z ∧ z ≤ 99) : ∃ τ, m_cl Z 245 [(2, ((191 : Nat) : Int)), (0, cc), (0, x), (0, y), (0, z)] (K, σ, 206, e, s) = some (.inl (0, (y_do kd x y z N).2), (K, τ, 206, e, s)) ∧ z_n τ (y_do kd x y z N).1 ∧ ∀ a, a ≠ 192 → τ a = σ a := by
  have wx : w32 x = x := q_wi (by omega) (by omega)
  have wy : w32 y = y := by clear wx; exact q_wi (by omega) (by omega)
  have wz : w32 z = z := by clear wx wy; exact q_wi (by omega) (by omega)
  have e119 : w32 119 = 119 := by decide
  have e118 : w32 118 = 118 := by decide
  have e120 : w32 120 = 120 := by decide
  have hC := z_needC (Z := Z) (e := e) (s := s) hL h wx wy wz
  have hF := z_needF (Z := Z) (e := e) (s := s) hL h wx wy wz
  have hS := z_needS (Z := Z) (e := e) (s := s) hL h wx wy
  have wv : ∀ v, v = 0 ∨ v = 1 ∨ v = 2 ∨ v = 3 → w32 v = v := by
    rintro v (rfl | rfl | rfl | rfl) <;> decide
  have wC := wv _ (y_cn_r (N := N) (a := x) (b := y) (l := z))
  have wF := wv _ (y_fb_r (N := N) (a := x) (b := y) (l := z))
  have wS := wv _ (y_sv_r (N := N) (a := x) (b := y))
  have hw := h.1
  have n0 := wf_n hw
  have hns := wf_s hw
  have n1 : ¬ (1 : Int) = 0 := by decide
  have e1 : w32 1 = 1 := by decide
  have e0 : w32 0 = 0 := by decide
  rcases hk with ⟨rfl, rfl⟩ | ⟨rfl, rfl⟩ | ⟨rfl, rfl⟩ | ⟨rfl, rfl⟩
  · unfold y_do
    rw [if_pos rfl]
    have a1 : ¬ (119 : Int) = 0 := by decide
    have a2 : ¬ (119 : Int) = 120 := by decide
    by_cases hd : y_sv N x y = 0
    · rw [if_pos hd]
      obtain ⟨q1, q2, q3⟩ := y_sv0 hd
      rw [hd] at hS
      have hi : x.toNat < 8 := by clear wx wy wz e119 e118 e120 hC hF hS wC wF wS e1 e0; omega
      obtain ⟨i1, i2, i3⟩ := z_ix (x := 1 + x) (m := 1 + x.toNat) (L' := 73) (by clear wx wy wz e119 e118 e120 hC hF hS wC wF wS e1 e0; omega) (by clear wx wy wz e119 e118 e120 hC hF hS wC wF wS e1 e0; omega) (by omega)
      refine ⟨q_put σ 192 (m_up (σ 192) (1 + x.toNat) y), ?_, ⟨(wf_wt hw hi q2 q3).1, by rw [q_put_at]; exact (z_row_wt h.2 n0.2.2 hi).1⟩, fun a ha => q_put_ne ha⟩
      rw [← q_up_put]
      simp only [e_245, b_245_0, b_245_4, b_245_12, b_245_15, b_245_19, b_245_23, b_245_29, b_245_37, b_245_40, b_245_44, b_245_48, b_245_54, b_245_57, b_245_61, b_245_62, b_245_69, b_245_73, b_245_81, b_245_85, b_245_90, b_245_96, b_245_104, b_245_108, b_245_113, b_245_123, b_245_127, b_245_129, b_245_133, ↓reduceIte, Nat.reduceEqDiff, Nat.reduceMul, q_n10, q_n01, Option.bind_some, g_aft0, g_aft1, g_aft2, g_aft3, g_aft9, Nat.reduceAdd, m_kill_0, m_kill_2, m_kill_3, m_kill_4, m_kill_9, true_or, or_true, q_lm1, q_l0, q_l1, q_l2, q_l3, q_l4, q_l5, q_l6, q_l8, q_l9, q_l10, q_l12, q_l17, q_l32, q_l35, q_l48, q_l50, q_l54, q_l57, q_l64, q_l73, q_l118, q_l119, q_l120, q_l122, q_l126, q_l160, q_l256, q_l365, q_l372, q_l438, q_l1000, q_l100000, q_l1000000, q_modF hL.2.2.2.2.2.2.1, e119, e120, a1, a2, hS, i1, i2, i3]
    · rw [if_neg hd]
      refine ⟨σ, ?_, h, fun _ _ => rfl⟩
      have hd' : ¬ w32 (y_sv N x y) = 0 := by rw [wS]; exact hd
      simp only [e_245, b_245_0, b_245_4, b_245_12, b_245_15, b_245_19, b_245_23, b_245_29, b_245_37, b_245_40, b_245_44, b_245_48, b_245_54, b_245_57, b_245_61, b_245_62, b_245_69, b_245_73, b_245_81, b_245_85, b_245_90, b_245_96, b_245_104, b_245_108, b_245_113, b_245_123, b_245_127, b_245_129, b_245_133, ↓reduceIte, Nat.reduceEqDiff, Nat.reduceMul, q_n10, q_n01, Option.bind_some, g_aft0, g_aft1, g_aft2, g_aft3, g_aft9, Nat.reduceAdd, m_kill_0, m_kill_2, m_kill_3, m_kill_4, m_kill_9, true_or, or_true, q_lm1, q_l0, q_l1, q_l2, q_l3, q_l4, q_l5, q_l6, q_l8, q_l9, q_l10, q_l12, q_l17, q_l32, q_l35, q_l48, q_l50, q_l54, q_l57, q_l64, q_l73, q_l118, q_l119, q_l120, q_l122, q_l126, q_l160, q_l256, q_l365, q_l372, q_l438, q_l1000, q_l100000, q_l1000000, q_modF hL.2.2.2.2.2.2.1, e119, e120, a1, a2, hS, hd']
  · unfold y_do
    rw [if_neg (by decide), if_pos rfl]
    have a1 : ¬ (118 : Int) = 0 := by decide
    have a2 : ¬ (118 : Int) = 120 := by decide
    have a3 : ¬ (118 : Int) = 119 := by decide
    by_cases hd : y_sv N x y = 0
    · rw [if_pos hd]
      obtain ⟨q1, q2, q3⟩ := y_sv0 hd
      rw [hd] at hS
      have hi : x.toNat < 8 := by clear wx wy wz e119 e118 e120 hC hF hS wC wF wS e1 e0; omega
      obtain ⟨i1, i2, i3⟩ := z_ix (x := 9 + x) (m := 9 + x.toNat) (L' := 73) (by clear wx wy wz e119 e118 e120 hC hF hS wC wF wS e1 e0; omega) (by clear wx wy wz e119 e118 e120 hC hF hS wC wF wS e1 e0; omega) (by omega)
      refine ⟨q_put σ 192 (m_up (σ 192) (9 + x.toNat) y), ?_, ⟨(wf_wt hw hi q2 q3).2, by rw [q_put_at]; exact (z_row_wt h.2 n0.2.2 hi).2⟩, fun a ha => q_put_ne ha⟩
      rw [← q_up_put]
      simp only [e_245, b_245_0, b_245_4, b_245_12, b_245_15, b_245_19, b_245_23, b_245_29, b_245_37, b_245_40, b_245_44, b_245_48, b_245_54, b_245_57, b_245_61, b_245_62, b_245_69, b_245_73, b_245_81, b_245_85, b_245_90, b_245_96, b_245_104, b_245_108, b_245_113, b_245_123, b_245_127, b_245_129, b_245_133, ↓reduceIte, Nat.reduceEqDiff, Nat.reduceMul, q_n10, q_n01, Option.bind_some, g_aft0, g_aft1, g_aft2, g_aft3, g_aft9, Nat.reduceAdd, m_kill_0, m_kill_2, m_kill_3, m_kill_4, m_kill_9, true_or, or_true, q_lm1, q_l0, q_l1, q_l2, q_l3, q_l4, q_l5, q_l6, q_l8, q_l9, q_l10, q_l12, q_l17, q_l32, q_l35, q_l48, q_l50, q_l54, q_l57, q_l64, q_l73, q_l118, q_l119, q_l120, q_l122, q_l126, q_l160, q_l256, q_l365, q_l372, q_l438, q_l1000, q_l100000, q_l1000000, q_modF hL.2.2.2.2.2.2.1, e119, e118, e120, a1, a2, a3, hS, i1, i2, i3]
    · rw [if_neg hd]
      refine ⟨σ, ?_, h, fun _ _ => rfl⟩
      have hd' : ¬ w32 (y_sv N x y) = 0 := by rw [wS]; exact hd
      simp only [e_245, b_245_0, b_245_4, b_245_12, b_245_15, b_245_19, b_245_23, b_245_29, b_245_37, b_245_40, b_245_44, b_245_48, b_245_54, b_245_57, b_245_61, b_245_62, b_245_69, b_245_73, b_245_81, b_245_85, b_245_90, b_245_96, b_245_104, b_245_108, b_245_113, b_245_123, b_245_127, b_245_129, b_245_133, ↓reduceIte, Nat.reduceEqDiff, Nat.reduceMul, q_n10, q_n01, Option.bind_some, g_aft0, g_aft1, g_aft2, g_aft3, g_aft9, Nat.reduceAdd, m_kill_0, m_kill_2, m_kill_3, m_kill_4, m_kill_9, true_or, or_true, q_lm1, q_l0, q_l1, q_l2, q_l3, q_l4, q_l5, q_l6, q_l8, q_l9, q_l10, q_l12, q_l17, q_l32, q_l35, q_l48, q_l50, q_l54, q_l57, q_l64, q_l73, q_l118, q_l119, q_l120, q_l122, q_l126, q_l160, q_l256, q_l365, q_l372, q_l438, q_l1000, q_l100000, q_l1000000, q_modF hL.2.2.2.2.2.2.1, e118, e120, a1, a2, a3, hS, hd']
  · unfold y_do
    rw [if_neg (by decide), if_neg (by decide), if_pos rfl]
    have a1 : ¬ (120 : Int) = 0 := by decide
    by_cases hd : y_fb N x y z = 0
    · rw [if_pos hd]
      obtain ⟨q1, q2, q3, q4, q5⟩ := y_fb0 hd
      rw [hd] at hF
      have h6 : w_ns N < 6 := by clear wx wy wz e119 e118 e120 hC hF hS wC wF wS e1 e0; omega
      have hc := z_forbids (Z := Z) (e := e) (s := s) (x := x) (y := y) (z := z) hL h.2 hw h6
      refine ⟨_, ?_, ⟨wf_fb hw h6 q1.1 q1.2 q2 q3 q4, by rw [q_put_at]; exact z_row_fb h.2 n0.2.2 (wf_e hw).2 h6⟩, fun a ha => q_put_ne ha⟩
      simp only [e_245, b_245_0, b_245_4, b_245_12, b_245_15, b_245_19, b_245_23, b_245_29, b_245_37, b_245_40, b_245_44, b_245_48, b_245_54, b_245_57, b_245_61, b_245_62, b_245_69, b_245_73, b_245_81, b_245_85, b_245_90, b_245_96, b_245_104, b_245_108, b_245_113, b_245_123, b_245_127, b_245_129, b_245_133, ↓reduceIte, Nat.reduceEqDiff, Nat.reduceMul, q_n10, q_n01, Option.bind_some, g_aft0, g_aft1, g_aft2, g_aft3, g_aft9, Nat.reduceAdd, m_kill_0, m_kill_2, m_kill_3, m_kill_4, m_kill_9, true_or, or_true, q_lm1, q_l0, q_l1, q_l2, q_l3, q_l4, q_l5, q_l6, q_l8, q_l9, q_l10, q_l12, q_l17, q_l32, q_l35, q_l48, q_l50, q_l54, q_l57, q_l64, q_l73, q_l118, q_l119, q_l120, q_l122, q_l126, q_l160, q_l256, q_l365, q_l372, q_l438, q_l1000, q_l100000, q_l1000000, q_modF hL.2.2.2.2.2.2.1, e120, a1, hF, hc]
    · rw [if_neg hd]
      refine ⟨σ, ?_, h, fun _ _ => rfl⟩
      have hd' : ¬ w32 (y_fb N x y z) = 0 := by rw [wF]; exact hd
      simp only [e_245, b_245_0, b_245_4, b_245_12, b_245_15, b_245_19, b_245_23, b_245_29, b_245_37, b_245_40, b_245_44, b_245_48, b_245_54, b_245_57, b_245_61, b_245_62, b_245_69, b_245_73, b_245_81, b_245_85, b_245_90, b_245_96, b_245_104, b_245_108, b_245_113, b_245_123, b_245_127, b_245_129, b_245_133, ↓reduceIte, Nat.reduceEqDiff, Nat.reduceMul, q_n10, q_n01, Option.bind_some, g_aft0, g_aft1, g_aft2, g_aft3, g_aft9, Nat.reduceAdd, m_kill_0, m_kill_2, m_kill_3, m_kill_4, m_kill_9, true_or, or_true, q_lm1, q_l0, q_l1, q_l2, q_l3, q_l4, q_l5, q_l6, q_l8, q_l9, q_l10, q_l12, q_l17, q_l32, q_l35, q_l48, q_l50, q_l54, q_l57, q_l64, q_l73, q_l118, q_l119, q_l120, q_l122, q_l126, q_l160, q_l256, q_l365, q_l372, q_l438, q_l1000, q_l100000, q_l1000000, q_modF hL.2.2.2.2.2.2.1, e120, a1, hF, hd']
  · unfold y_do
    rw [if_neg (by decide), if_neg (by decide), if_neg (by decide)]
    by_cases hd : y_cn N x y z = 0
    · rw [if_pos hd]
      obtain ⟨q1, q2, q3, q5, hj⟩ := y_cn0 hw hd
      rw [hd] at hC
      have hc := z_connects (Z := Z) (e := e) (s := s) (x := x) (y := y) (z := z) hL h.2 hw q5
      refine ⟨_, ?_, ⟨wf_cn hw q5 q1.1 q1.2 q2.1 q2.2 (fun q => q3 (Or.inl q)) (by clear wx wy wz e119 e118 e120 hC hF hS wC wF wS e1 e0; omega) (by clear wx wy wz e119 e118 e120 hC hF hS wC wF wS e1 e0; omega) hj, by rw [q_put_at]; exact z_row_cn h.2 n0.2.2 q5⟩, fun a ha => q_put_ne ha⟩
      simp only [e_245, b_245_0, b_245_4, b_245_12, b_245_15, b_245_19, b_245_23, b_245_29, b_245_37, b_245_40, b_245_44, b_245_48, b_245_54, b_245_57, b_245_61, b_245_62, b_245_69, b_245_73, b_245_81, b_245_85, b_245_90, b_245_96, b_245_104, b_245_108, b_245_113, b_245_123, b_245_127, b_245_129, b_245_133, ↓reduceIte, Nat.reduceEqDiff, Nat.reduceMul, q_n10, q_n01, Option.bind_some, g_aft0, g_aft1, g_aft2, g_aft3, g_aft9, Nat.reduceAdd, m_kill_0, m_kill_2, m_kill_3, m_kill_4, m_kill_9, true_or, or_true, q_lm1, q_l0, q_l1, q_l2, q_l3, q_l4, q_l5, q_l6, q_l8, q_l9, q_l10, q_l12, q_l17, q_l32, q_l35, q_l48, q_l50, q_l54, q_l57, q_l64, q_l73, q_l118, q_l119, q_l120, q_l122, q_l126, q_l160, q_l256, q_l365, q_l372, q_l438, q_l1000, q_l100000, q_l1000000, q_modF hL.2.2.2.2.2.2.1, hC, hc]
    · rw [if_neg hd]
      refine ⟨σ, ?_, h, fun _ _ => rfl⟩
      have hd' : ¬ w32 (y_cn N x y z) = 0 := by rw [wC]; exact hd
      have b119 : ¬ (0 : Int) = 120 := by decide
      simp only [e_245, b_245_0, b_245_4, b_245_12, b_245_15, b_245_19, b_245_23, b_245_29, b_245_37, b_245_40, b_245_44, b_245_48, b_245_54, b_245_57, b_245_61, b_245_62, b_245_69, b_245_73, b_245_81, b_245_85, b_245_90, b_245_96, b_245_104, b_245_108, b_245_113, b_245_123, b_245_127, b_245_129, b_245_133, ↓reduceIte, Nat.reduceEqDiff, Nat.reduceMul, q_n10, q_n01, Option.bind_some, g_aft0, g_aft1, g_aft2, g_aft3, g_aft9, Nat.reduceAdd, m_kill_0, m_kill_2, m_kill_3, m_kill_4, m_kill_9, true_or, or_true, q_lm1, q_l0, q_l1, q_l2, q_l3, q_l4, q_l5, q_l6, q_l8, q_l9, q_l10, q_l12, q_l17, q_l32, q_l35, q_l48, q_l50, q_l54, q_l57, q_l64, q_l73, q_l118, q_l119, q_l120, q_l122, q_l126, q_l160, q_l256, q_l365, q_l372, q_l438, q_l1000, q_l100000, q_l1000000, q_modF hL.2.2.2.2.2.2.1, e120, b119, hC, hd']
theorem w_skf_end : ∀ (d i : Nat), w_skf X L d i = i + d ∨ w_sg X L (w_skf X L d i) ≠ 32
  | 0, i => Or.inl rfl
  | d + 1, i => by
    show (if w_sg X L i = 32 then w_skf X L d (i + 1) else i) = i + (d + 1) ∨ w_sg X L (if w_sg X L i = 32 then w_skf X L d (i + 1) else i) ≠ 32
    by_cases c : w_sg X L i = 32
    · rw [if_pos c]
      rcases w_skf_end d (i + 1) with q | q
      · left; omega
      · exact Or.inr q
    · rw [if_neg c]
      exact Or.inr c
theorem w_sk_idem (hi : i ≤ L) : w_sk X L (w_sk X L i) = w_sk X L i := by
  have hle := w_sk_le (X := X) hi
  have he := w_skf_end (X := X) (L := L) (L - i) i
  have hd : w_sk X L i = w_skf X L (L - i) i := rfl
  rw [← hd] at he
  generalize w_sk X L i = j at *
  rcases he with q | q
  · have : L - j = 0 := by omega
    unfold w_sk
    rw [this]
    rfl
  · unfold w_sk
    cases hdd : L - j with
    | zero => rfl
    | succ d =>
      show (if w_sg X L j = 32 then _ else j) = j
      rw [if_neg q]
theorem w_ptc_f {r : List Nat} {x : Bool × Nat × List Int} (h : (w_ptc X L r x).1 = true) : x.1 = true := by
  unfold w_ptc at h
  split at h
  · next q => exact q
  · exact h
theorem m_strE : m_str 0 = [119] ++ ([35, 61] ++ [35, 59]) ∧ m_str 1 = [118] ++ ([35, 61] ++ [35, 59]) ∧ m_str 2 = [120] ++ ([35, 58] ++ ([35, 45] ++ [35, 59])) ∧ m_str 3 = [35, 45] ++ ([35, 58] ++ [35, 59]) := by decide
theorem w_pt1 {c : Nat} (hc : c ≠ 35) (hsk : w_sk X L i = i) (hs : w_sg X L i = (c : Int)) : w_pt X L [c] i [] = (true, i + 1, []) := by
  unfold w_pt
  rw [if_neg hc, hsk, if_pos hs]
  rfl
theorem w_ptc_t {r : List Nat} {l : List Int} {j : Nat} : w_ptc X L r (true, j, l) = w_pt X L r j l := rfl
theorem w_ptc_app {r1 r2 : List Nat} {x : Bool × Nat × List Int} : w_ptc X L (r1 ++ r2) x = w_ptc X L r2 (w_ptc X L r1 x) := by
  by_cases hx : x.1 = true
  · have e1 : w_ptc X L r1 x = w_pt X L r1 x.2.1 x.2.2 := if_pos hx
    have e2 : w_ptc X L (r1 ++ r2) x = w_pt X L (r1 ++ r2) x.2.1 x.2.2 := if_pos hx
    rw [e1, e2, w_pt_app]
  · have e1 : w_ptc X L r1 x = x := if_neg hx
    have e2 : w_ptc X L (r1 ++ r2) x = x := if_neg hx
    have e3 : w_ptc X L r2 x = x := if_neg hx
    rw [e1, e2, e3]
theorem w_cmE (hsk : w_sk X L i = i) : (w_sg X L i = 119 → w_cm X L i = w_ptc X L [35, 59] (w_ptc X L [35, 61] (true, i + 1, []))) ∧ (w_sg X L i = 118 → w_cm X L i = w_ptc X L [35, 59] (w_ptc X L [35, 61] (true, i + 1, []))) ∧ (w_sg X L i = 120 → w_cm X L i = w_ptc X L [35, 59] (w_ptc X L [35, 45] (w_ptc X L [35, 58] (true, i + 1, [])))) ∧ (w_sg X L i ≠ 119 → w_sg X L i ≠ 118 → w_sg X L i ≠ 120 → w_cm X L i = w_ptc X L [35, 59] (w_ptc X L [35, 58] (w_ptc X L [35, 45] (true, i, [])))) := by
  obtain ⟨s0, s1, s2, s3⟩ := m_strE
  refine ⟨fun h => ?_, fun h => ?_, fun h => ?_, fun h1 h2 h3 => ?_⟩
  · have hk : w_kd X L i = 0 := by unfold w_kd; rw [if_pos h]
    unfold w_cm
    rw [hk, if_neg (by decide), s0, w_pt_app, w_pt1 (by decide) hsk h, w_ptc_t, w_pt_app, w_ptc_t]
  · have hk : w_kd X L i = 1 := by unfold w_kd; rw [if_neg (by omega), if_pos h]
    unfold w_cm
    rw [hk, if_neg (by decide), s1, w_pt_app, w_pt1 (by decide) hsk h, w_ptc_t, w_pt_app, w_ptc_t]
  · have hk : w_kd X L i = 2 := by unfold w_kd; rw [if_neg (by omega), if_neg (by omega), if_pos h]
    unfold w_cm
    rw [hk, if_neg (by decide), s2, w_pt_app, w_pt1 (by decide) hsk h, w_ptc_t, w_pt_app, w_ptc_app, w_ptc_t]
  · have e3 : w_pt X L (m_str 3) i [] = w_ptc X L [35, 59] (w_ptc X L [35, 58] (w_ptc X L [35, 45] (true, i, []))) := by
      rw [s3, w_pt_app, w_ptc_app, w_ptc_t]
    by_cases hd : w_dg X L i = true
    · have hk : w_kd X L i = 3 := by unfold w_kd; rw [if_neg h1, if_neg h2, if_neg h3, if_pos hd]
      unfold w_cm
      rw [hk, if_neg (by decide)]
      exact e3
    · have hk : w_kd X L i = 4 := by unfold w_kd; rw [if_neg h1, if_neg h2, if_neg h3, if_neg hd]
      unfold w_cm
      rw [hk, if_pos rfl, ← e3, show m_str 3 = 35 :: [45, 35, 58, 35, 59] from by decide]
      unfold w_pt
      rw [if_pos rfl, w_nm_nd, hsk]
      have hn : w_nd X L i = (false, i, 0) := by unfold w_nd; rw [if_neg hd]
      rw [hn]
      rfl
theorem z_pst_s (hp : σ 191 23 = (i : Int)) (h24 : σ 191 24 = -1) (hj : j ≤ L) : z_pst (m_up2 σ 191 23 (j : Int)) L (true, j, []) := ⟨hj, by rw [if_pos rfl, m_up2_nk (by omega)]; exact h24, j, hj, m_up2_at, fun _ => rfl⟩
/-- one command is read -/
theorem z_cmd {B l3 l4 l5 l6 : mV} (hL : q_lay K) (h : z_txt σ X L) (hp : σ 191 23 = (i : Int)) (h24 : σ 191 24 = -1) (hi : i < L) (hsk : w_sk X L i = i) : ∃ (isL a b th : Int) (σ' : Nat → Nat → Int), m_run Z (244, 39, [(2, ((191 : Nat) : Int)), B, (0, w_sg X L i), l3, l4, l5, l6], [], (K, σ, 206, e, s)) = m_run Z (244, 161, [(2, ((191 : Nat) : Int)), B, (0, w_sg X L i), (0, isL), (0, a), (0, b), (0, th)], [], (K, σ', 206, e, s)) ∧ z_fp σ σ' ∧ z_pst σ' L (w_cm X L i) ∧ ((w_cm X L i).1 = true → (w_cm X L i).2.2.getD 0 0 = a ∧ (w_cm X L i).2.2.getD 1 0 = b ∧ (w_cm X L i).2.2.getD 2 0 = th ∧ (w_kc X L i = 119 ∧ w_sg X L i = 119 ∧ isL = 1 ∨ w_kc X L i = 118 ∧ w_sg X L i = 118 ∧ isL = 1 ∨ w_kc X L i = 120 ∧ w_sg X L i = 120 ∧ isL = 1 ∨ w_kc X L i = 35 ∧ isL = 0)) := by
  obtain ⟨-, g2, -⟩ := z_sgb h hi
  obtain ⟨c1, c2, c3, c4⟩ := w_cmE (X := X) (L := L) hsk
  have e119 : w32 119 = 119 := by decide
  have e118 : w32 118 = 118 := by decide
  have e120 : w32 120 = 120 := by decide
  have n10 : ¬ (1 : Int) = 0 := by decide
  have b1 : ¬ (118 : Int) = 119 := by decide
  have b2 : ¬ (119 : Int) = 120 := by decide
  have b3 : ¬ (118 : Int) = 120 := by decide
  have b4 : ¬ (120 : Int) = 119 := by decide
  have b5 : ¬ (120 : Int) = 118 := by decide
  have ei : ((i + 1 : Nat) : Int) = (i : Int) + 1 := rfl
  have i0 : (i : Int) + 0 = (i : Int) := Int.add_zero _
  have s1 := z_pst_s (L := L) (j := i + 1) hp h24 hi
  have s0 := z_pst_s (L := L) (j := i) hp h24 (Nat.le_of_lt hi)
  rw [ei] at s1
  by_cases k0 : w_sg X L i = 119 ∨ w_sg X L i = 118
  · have hcm : w_cm X L i = w_ptc X L [35, 59] (w_ptc X L [35, 61] (true, i + 1, [])) := by
      rcases k0 with k | k
      · exact c1 k
      · exact c2 k
    obtain ⟨v1, σ1, σ2, p1, p2, p3, p4, p5, p6⟩ := z_pair2 (Z := Z) (e := e) (s := s) (σ := m_up2 σ 191 23 ((i : Int) + 1)) (c := 61) hL (z_txt_p h z_fp_23) s1 (Or.inr (Or.inl rfl))
    have f2 : z_fp σ σ2 := z_fp_t z_fp_23 p4
    obtain ⟨v2, σ3, σ4, r1, r2, r3, r4, r5, r6⟩ := z_pair2 (Z := Z) (e := e) (s := s) (σ := σ2) (c := 59) hL (z_txt_p h f2) p5 (Or.inr (Or.inr (Or.inr rfl)))
    rw [← hcm] at r5 r6
    have k61 : ((61 : Nat) : Int) = 61 := rfl
    have k59 : ((59 : Nat) : Int) = 59 := rfl
    rw [k61] at p2
    rw [k59] at r2
    refine ⟨1, v1, v2, 0, σ4, ?_, z_fp_t f2 r4, r5, fun q => ?_⟩
    · rcases k0 with k | k
      · rw [k]
        simp only [b_244_0, b_244_19, b_244_31, b_244_39, b_244_45, b_244_51, b_244_57, b_244_61, b_244_62, b_244_72, b_244_76, b_244_77, b_244_85, b_244_94, b_244_99, b_244_103, b_244_108, b_244_110, b_244_113, b_244_117, b_244_128, b_244_132, b_244_139, b_244_144, b_244_146, b_244_149, b_244_153, b_244_155, b_244_161, b_244_165, b_244_175, b_244_179, b_244_180, b_244_189, b_244_192, b_244_196, b_244_197, b_244_201, b_244_205, b_244_209, ↓reduceIte, Nat.reduceEqDiff, Nat.reduceMul, q_n10, q_n01, Option.bind_some, g_aft0, g_aft1, g_aft2, g_aft3, g_aft9, Nat.reduceAdd, m_kill_0, m_kill_2, m_kill_3, m_kill_4, m_kill_9, true_or, or_true, q_lm1, q_l0, q_l1, q_l2, q_l3, q_l4, q_l5, q_l6, q_l8, q_l9, q_l10, q_l12, q_l17, q_l32, q_l35, q_l48, q_l50, q_l54, q_l57, q_l64, q_l73, q_l118, q_l119, q_l120, q_l122, q_l126, q_l160, q_l256, q_l365, q_l372, q_l438, q_l1000, q_l100000, q_l1000000, q_modF hL.2.2.2.2.2.2.1, e119, e120, b2, n10, hp, p1, p2, r1, r2]
      · rw [k]
        simp only [b_244_0, b_244_19, b_244_31, b_244_39, b_244_45, b_244_51, b_244_57, b_244_61, b_244_62, b_244_72, b_244_76, b_244_77, b_244_85, b_244_94, b_244_99, b_244_103, b_244_108, b_244_110, b_244_113, b_244_117, b_244_128, b_244_132, b_244_139, b_244_144, b_244_146, b_244_149, b_244_153, b_244_155, b_244_161, b_244_165, b_244_175, b_244_179, b_244_180, b_244_189, b_244_192, b_244_196, b_244_197, b_244_201, b_244_205, b_244_209, ↓reduceIte, Nat.reduceEqDiff, Nat.reduceMul, q_n10, q_n01, Option.bind_some, g_aft0, g_aft1, g_aft2, g_aft3, g_aft9, Nat.reduceAdd, m_kill_0, m_kill_2, m_kill_3, m_kill_4, m_kill_9, true_or, or_true, q_lm1, q_l0, q_l1, q_l2, q_l3, q_l4, q_l5, q_l6, q_l8, q_l9, q_l10, q_l12, q_l17, q_l32, q_l35, q_l48, q_l50, q_l54, q_l57, q_l64, q_l73, q_l118, q_l119, q_l120, q_l122, q_l126, q_l160, q_l256, q_l365, q_l372, q_l438, q_l1000, q_l100000, q_l1000000, q_modF hL.2.2.2.2.2.2.1, e119, e118, e120, b1, b3, n10, hp, p1, p2, r1, r2]
    · have q1 : (w_ptc X L [35, 61] (true, i + 1, [])).1 = true := by rw [hcm] at q; exact w_ptc_f q
      have l2 := r6 q
      rw [p6 q1] at l2
      rw [l2]
      refine ⟨rfl, rfl, rfl, ?_⟩
      rcases k0 with k | k
      · left
        exact ⟨by unfold w_kc w_kd; rw [if_pos k, if_pos rfl], k, rfl⟩
      · right; left
        refine ⟨?_, k, rfl⟩
        have hk : w_kd X L i = 1 := by unfold w_kd; rw [if_neg (by clear g2 e119 e118 e120; omega), if_pos k]
        unfold w_kc
        rw [hk, if_neg (by decide), if_pos rfl]
  · by_cases k2 : w_sg X L i = 120
    · have hcm := c3 k2
      obtain ⟨v1, σ1, σ2, p1, p2, p3, p4, p5, p6⟩ := z_pair2 (Z := Z) (e := e) (s := s) (σ := m_up2 σ 191 23 ((i : Int) + 1)) (c := 58) hL (z_txt_p h z_fp_23) s1 (Or.inl rfl)
      have f2 : z_fp σ σ2 := z_fp_t z_fp_23 p4
      obtain ⟨v2, σ3, σ4, r1, r2, r3, r4, r5, r6⟩ := z_pair2 (Z := Z) (e := e) (s := s) (σ := σ2) (c := 45) hL (z_txt_p h f2) p5 (Or.inr (Or.inr (Or.inl rfl)))
      have f4 := z_fp_t f2 r4
      obtain ⟨v3, σ5, σ6, u1, u2, u3, u4, u5, u6⟩ := z_pair2 (Z := Z) (e := e) (s := s) (σ := σ4) (c := 59) hL (z_txt_p h f4) r5 (Or.inr (Or.inr (Or.inr rfl)))
      rw [← hcm] at u5 u6
      have k58 : ((58 : Nat) : Int) = 58 := rfl
      have k45 : ((45 : Nat) : Int) = 45 := rfl
      have k59 : ((59 : Nat) : Int) = 59 := rfl
      rw [k58] at p2
      rw [k45] at r2
      rw [k59] at u2
      refine ⟨1, v1, v2, v3, σ6, ?_, z_fp_t f4 u4, u5, fun q => ?_⟩
      · rw [k2]
        simp only [b_244_0, b_244_19, b_244_31, b_244_39, b_244_45, b_244_51, b_244_57, b_244_61, b_244_62, b_244_72, b_244_76, b_244_77, b_244_85, b_244_94, b_244_99, b_244_103, b_244_108, b_244_110, b_244_113, b_244_117, b_244_128, b_244_132, b_244_139, b_244_144, b_244_146, b_244_149, b_244_153, b_244_155, b_244_161, b_244_165, b_244_175, b_244_179, b_244_180, b_244_189, b_244_192, b_244_196, b_244_197, b_244_201, b_244_205, b_244_209, ↓reduceIte, Nat.reduceEqDiff, Nat.reduceMul, q_n10, q_n01, Option.bind_some, g_aft0, g_aft1, g_aft2, g_aft3, g_aft9, Nat.reduceAdd, m_kill_0, m_kill_2, m_kill_3, m_kill_4, m_kill_9, true_or, or_true, q_lm1, q_l0, q_l1, q_l2, q_l3, q_l4, q_l5, q_l6, q_l8, q_l9, q_l10, q_l12, q_l17, q_l32, q_l35, q_l48, q_l50, q_l54, q_l57, q_l64, q_l73, q_l118, q_l119, q_l120, q_l122, q_l126, q_l160, q_l256, q_l365, q_l372, q_l438, q_l1000, q_l100000, q_l1000000, q_modF hL.2.2.2.2.2.2.1, e119, e118, e120, b4, b5, n10, hp, p1, p2, r1, r2, u1, u2]
      · have q2 : (w_ptc X L [35, 45] (w_ptc X L [35, 58] (true, i + 1, []))).1 = true := by rw [hcm] at q; exact w_ptc_f q
        have q1 := w_ptc_f q2
        have l3 := u6 q
        rw [r6 q2, p6 q1] at l3
        rw [l3]
        refine ⟨rfl, rfl, rfl, ?_⟩
        right; right; left
        refine ⟨?_, k2, rfl⟩
        have hk : w_kd X L i = 2 := by unfold w_kd; rw [if_neg (by clear g2 e119 e118 e120; omega), if_neg (by clear g2 e119 e118 e120; omega), if_pos k2]
        unfold w_kc
        rw [hk, if_neg (by decide), if_neg (by decide), if_pos rfl]
    · have k119 : ¬ w_sg X L i = 119 := fun q => k0 (Or.inl q)
      have k118 : ¬ w_sg X L i = 118 := fun q => k0 (Or.inr q)
      have hcm := c4 k119 k118 k2
      obtain ⟨v1, σ1, σ2, p1, p2, p3, p4, p5, p6⟩ := z_pair2 (Z := Z) (e := e) (s := s) (σ := m_up2 σ 191 23 (i : Int)) (c := 45) hL (z_txt_p h z_fp_23) s0 (Or.inr (Or.inr (Or.inl rfl)))
      have f2 : z_fp σ σ2 := z_fp_t z_fp_23 p4
      obtain ⟨v2, σ3, σ4, r1, r2, r3, r4, r5, r6⟩ := z_pair2 (Z := Z) (e := e) (s := s) (σ := σ2) (c := 58) hL (z_txt_p h f2) p5 (Or.inl rfl)
      have f4 := z_fp_t f2 r4
      obtain ⟨v3, σ5, σ6, u1, u2, u3, u4, u5, u6⟩ := z_pair2 (Z := Z) (e := e) (s := s) (σ := σ4) (c := 59) hL (z_txt_p h f4) r5 (Or.inr (Or.inr (Or.inr rfl)))
      rw [← hcm] at u5 u6
      have k58 : ((58 : Nat) : Int) = 58 := rfl
      have k45 : ((45 : Nat) : Int) = 45 := rfl
      have k59 : ((59 : Nat) : Int) = 59 := rfl
      rw [k45] at p2
      rw [k58] at r2
      rw [k59] at u2
      refine ⟨0, v1, v2, v3, σ6, ?_, z_fp_t f4 u4, u5, fun q => ?_⟩
      · simp only [b_244_0, b_244_19, b_244_31, b_244_39, b_244_45, b_244_51, b_244_57, b_244_61, b_244_62, b_244_72, b_244_76, b_244_77, b_244_85, b_244_94, b_244_99, b_244_103, b_244_108, b_244_110, b_244_113, b_244_117, b_244_128, b_244_132, b_244_139, b_244_144, b_244_146, b_244_149, b_244_153, b_244_155, b_244_161, b_244_165, b_244_175, b_244_179, b_244_180, b_244_189, b_244_192, b_244_196, b_244_197, b_244_201, b_244_205, b_244_209, ↓reduceIte, Nat.reduceEqDiff, Nat.reduceMul, q_n10, q_n01, Option.bind_some, g_aft0, g_aft1, g_aft2, g_aft3, g_aft9, Nat.reduceAdd, m_kill_0, m_kill_2, m_kill_3, m_kill_4, m_kill_9, true_or, or_true, q_lm1, q_l0, q_l1, q_l2, q_l3, q_l4, q_l5, q_l6, q_l8, q_l9, q_l10, q_l12, q_l17, q_l32, q_l35, q_l48, q_l50, q_l54, q_l57, q_l64, q_l73, q_l118, q_l119, q_l120, q_l122, q_l126, q_l160, q_l256, q_l365, q_l372, q_l438, q_l1000, q_l100000, q_l1000000, q_modF hL.2.2.2.2.2.2.1, e119, e118, e120, g2, k119, k118, k2, hp, i0, p1, p2, r1, r2, u1, u2]
      · have q2 : (w_ptc X L [35, 58] (w_ptc X L [35, 45] (true, i, []))).1 = true := by rw [hcm] at q; exact w_ptc_f q
        have q1 := w_ptc_f q2
        have l3 := u6 q
        rw [r6 q2, p6 q1] at l3
        rw [l3]
        refine ⟨rfl, rfl, rfl, ?_⟩
        right; right; right
        refine ⟨?_, rfl⟩
        have hk : 2 < w_kd X L i := by
          unfold w_kd
          rw [if_neg k119, if_neg k118, if_neg k2]
          split <;> omega
        unfold w_kc
        rw [if_neg (by clear g2 e119 e118 e120; omega), if_neg (by clear g2 e119 e118 e120; omega), if_neg (by clear g2 e119 e118 e120; omega)]
end
end
