section
/-! The class's calls: run. -/
/-- a command carried out: the network behind it, whether it could be -/
def y_do (kd x y z : Int) (N : Nat → Nat → Int) : (Nat → Nat → Int) × Int :=
  if kd = 119 then (if y_sv N x y = 0 then (m_up2 N 2 x.toNat y, 1) else (N, 0))
  else if kd = 118 then (if y_sv N x y = 0 then (m_up2 N 4 x.toNat y, 1) else (N, 0))
  else if kd = 120 then (if y_fb N x y z = 0 then (o_fb x y z N, 1) else (N, 0))
  else (if y_cn N x y z = 0 then (o_cn x y z N, 1) else (N, 0))
def y_d1 (X : Nat → Int) (L i : Nat) (N : Nat → Nat → Int) : (Nat → Nat → Int) × Int := y_do (w_kc X L i) ((w_cm X L i).2.2.getD 0 0) ((w_cm X L i).2.2.getD 1 0) ((w_cm X L i).2.2.getD 2 0) N
def y_rn (X : Nat → Int) (L : Nat) : Nat → Nat → (Nat → Nat → Int) × Int → (Nat → Nat → Int) × Int
  | 0, _, x => x
  | f + 1, i, x => if w_sk X L i < L then y_rn X L f (w_cm X L (w_sk X L i)).2.1 ((y_d1 X L (w_sk X L i) x.1).1, x.2 + (y_d1 X L (w_sk X L i) x.1).2) else x
section
variable {Z : mZ} {K : Nat → mK} {σ τ N M : Nat → Nat → Int} {R : Nat → Nat → Nat → Int} {e s g i L n c k a : Nat} {t p q v b x y z w u S : Int} {X : Nat → Int}
theorem y_cn0 (hw : q_wf N) (h0 : y_cn N x y z = 0) : (0 ≤ x ∧ x < N 0 0) ∧ (0 ≤ y ∧ y < N 0 0) ∧ ¬ (x = y ∨ z < 1 ∨ 50 < z) ∧ w_ne N < 12 ∧ ∀ i, i < w_ne N → ¬ (N 6 i = x ∧ N 8 i = y ∨ N 6 i = y ∧ N 8 i = x) := by
  have hr := w_ebI_r hw (x := x) (y := y)
  unfold y_cn at h0
  by_cases c1 : ¬ (0 ≤ x ∧ x < N 0 0) ∨ ¬ (0 ≤ y ∧ y < N 0 0)
  · rw [if_pos c1] at h0; exact absurd h0 (by decide)
  · rw [if_neg c1] at h0
    by_cases c2 : x = y ∨ z < 1 ∨ 50 < z
    · rw [if_pos c2] at h0; exact absurd h0 (by decide)
    · rw [if_neg c2] at h0
      by_cases c3 : ¬ w_ebI N x y = -1 ∨ 12 ≤ w_ne N
      · rw [if_pos c3] at h0; exact absurd h0 (by decide)
      · refine ⟨by omega, by omega, c2, by omega, ?_⟩
        rcases hr with ⟨-, hj⟩ | ⟨j, -, hj⟩
        · exact hj
        · omega
theorem w_pt_num : ∀ (r : List Nat) (i : Nat) (a : List Int), i ≤ L → (∀ c, c ∈ r → 1 ≤ c) → (∀ v, v ∈ a → 0 ≤ v ∧ v ≤ 99) → (∀ v, v ∈ (w_pt X L r i a).2.2 → 0 ≤ v ∧ v ≤ 99) ∧ ((w_pt X L r i a).1 = true → (w_pt X L r i a).2.2.length = a.length + w_c35 r)
  | [], i, a, _, _, h => ⟨h, fun _ => rfl⟩
  | c :: r, i, a, hi, hc, h => by
    have hs := w_sk_le (X := X) hi
    have hn := w_nd_le (X := X) hs.2
    have hc1 := hc c (List.mem_cons_self ..)
    have hcr : ∀ c, c ∈ r → 1 ≤ c := fun d hd => hc d (List.mem_cons_of_mem _ hd)
    show (∀ v, v ∈ (if c = 35 then _ else _ : Bool × Nat × List Int).2.2 → 0 ≤ v ∧ v ≤ 99) ∧ ((if c = 35 then _ else _ : Bool × Nat × List Int).1 = true → (if c = 35 then _ else _ : Bool × Nat × List Int).2.2.length = a.length + (if c = 35 then w_c35 r + 1 else w_c35 r))
    by_cases h35 : c = 35
    · rw [if_pos h35, if_pos h35, w_nm_nd]
      by_cases hb : (w_nd X L (w_sk X L i)).1 = true
      · rw [if_pos hb]
        have ih := w_pt_num r (w_nd X L (w_sk X L i)).2.1 (a ++ [(w_nd X L (w_sk X L i)).2.2]) hn.2.1 hcr (fun v hv => by
          rcases List.mem_append.mp hv with hv | hv
          · exact h v hv
          · rw [List.mem_singleton.mp hv]; exact hn.2.2)
        refine ⟨ih.1, fun q => ?_⟩
        rw [ih.2 q, List.length_append]
        show a.length + 1 + _ = _
        omega
      · rw [if_neg hb]
        exact ⟨h, fun q => absurd q Bool.false_ne_true⟩
    · rw [if_neg h35, if_neg h35]
      by_cases hb : w_sg X L (w_sk X L i) = (c : Int)
      · rw [if_pos hb]
        have hlt : w_sk X L i < L := by
          by_cases hlt : w_sk X L i < L
          · exact hlt
          · unfold w_sg at hb
            rw [if_neg hlt] at hb
            omega
        exact w_pt_num r (w_sk X L i + 1) a hlt hcr h
      · rw [if_neg hb]
        exact ⟨h, fun q => absurd q Bool.false_ne_true⟩
theorem w_c35N : ∀ k : Fin 4, w_c35 (m_str k.val) = if k.val < 2 then 2 else 3 := by decide
theorem w_cm_num (hi : i ≤ L) (h : (w_cm X L i).1 = true) : (∀ m, 0 ≤ (w_cm X L i).2.2.getD m 0 ∧ (w_cm X L i).2.2.getD m 0 ≤ 99) ∧ w_kd X L i < 4 ∧ (w_cm X L i).2.2.length = if w_kd X L i < 2 then 2 else 3 := by
  have hk := w_kd5 (X := X) (L := L) (i := i)
  unfold w_cm at h ⊢
  by_cases h4 : w_kd X L i = 4
  · rw [if_pos h4] at h
    exact absurd h Bool.false_ne_true
  · rw [if_neg h4] at h ⊢
    have hp := w_pt_num (X := X) (m_str (w_kd X L i)) i [] hi (fun c hc => ((m_str_c hk).2.2 c hc).1) (fun v hv => by simp at hv)
    refine ⟨fun m => ?_, by omega, ?_⟩
    · by_cases hm : m < (w_pt X L (m_str (w_kd X L i)) i []).2.2.length
      · exact hp.1 _ (getD_mem hm)
      · rw [List.getD_eq_getElem?_getD, List.getElem?_eq_none (by omega)]
        exact (by decide : (0 : Int) ≤ 0 ∧ (0 : Int) ≤ 99)
    · rw [hp.2 h, w_c35N ⟨w_kd X L i, by omega⟩]
      simp
/-- one command -/
theorem a_carry {kd : Int} (hL : q_lay K) (h : w_in0 σ N) (hkd : σ 186 3 = kd) (hk : kd = 119 ∨ kd = 118 ∨ kd = 120 ∨ kd = 35) (hx : σ 190 0 = x) (hx2 : 0 ≤ x ∧ x ≤ 99) (hy : σ 190 1 = y) (hy2 : 0 ≤ y ∧ y ≤ 99) (hz : kd = 120 ∨ kd = 35 → σ 190 2 = z ∧ 0 ≤ z ∧ z ≤ 99) : ∃ τ, m_cl Z 140 [(2, ((0 : Nat) : Int))] (K, σ, 206, e, s) = some (.inl (0, (y_do kd x y z N).2), (K, τ, 206, e, s)) ∧ w_in0 τ (y_do kd x y z N).1 ∧ ∀ a, a < 1 ∨ 18 ≤ a → τ a = σ a := by
  have wx : w32 x = x := q_wi (by omega) (by omega)
  have wy : w32 y = y := q_wi (by clear wx; omega) (by clear wx; omega)
  have g0 : q_get σ 190 3 0 = x := hx
  have g1 : q_get σ 190 3 1 = y := hy
  obtain ⟨r, hr⟩ : ∃ r, q_get σ 190 3 2 = r := ⟨_, rfl⟩
  have rz : kd = 120 ∨ kd = 35 → r = z ∧ 0 ≤ z ∧ z ≤ 99 := fun q => ⟨by rw [← hr]; exact (hz q).1, (hz q).2⟩
  have e119 : w32 119 = 119 := by decide
  have e118 : w32 118 = 118 := by decide
  have e120 : w32 120 = 120 := by decide
  have e35 : w32 35 = 35 := by decide
  have hV := a_whyV (Z := Z) (e := e) (s := s) hL h wx wy
  have h8 := h.1.1
  have hne := wf_e h.1
  have hns := wf_s h.1
  have sE : ∀ (m pc : Nat) (ls st : List mV) (v : Int), v = 1 ∨ v = 2 ∨ v = 3 → ¬ v = 0 := by intro m pc ls st v hv; omega
  have wv : ∀ v, v = 0 ∨ v = 1 ∨ v = 2 ∨ v = 3 → w32 v = v := by
    rintro v (rfl | rfl | rfl | rfl) <;> decide
  have wS := wv _ (y_sv_r (N := N) (a := x) (b := y))
  rcases hk with rfl | rfl | rfl | rfl
  · -- w
    unfold y_do
    rw [if_pos rfl]
    by_cases hd : y_sv N x y = 0
    · rw [if_pos hd]
      obtain ⟨q1, q2, q3⟩ := y_sv0 hd
      have hi : x.toNat < 8 := by clear wx wy g0 g1 hr e119 e118 e120 e35 hV wS; omega
      have s1 : q_set σ 3 8 x y = m_up2 σ 3 x.toNat y := q_set_ok q1.1 (by clear wx wy g0 g1 hr e119 e118 e120 e35 hV wS; omega) (by omega)
      rw [hd] at hV
      refine ⟨m_up2 σ (1 + 2) x.toNat y, ?_, ⟨(wf_wt h.1 hi q2 q3).1, nf_up h.2.1 (by rw [q_len2]; simpa using hi), nAt_up h.2.2⟩, fun a ha => m_up2_ne (by omega)⟩
      simp only [e_140, b_140_0, b_140_11, b_140_23, b_140_35, b_140_68, b_140_77, b_140_84, b_140_96, b_140_101, b_140_105, b_140_106, b_140_107, b_140_116, b_140_123, b_140_135, b_140_140, b_140_144, b_140_145, b_140_146, b_140_156, b_140_163, b_140_173, b_140_174, b_140_179, b_140_183, b_140_184, b_140_185, b_140_195, b_140_202, b_140_212, b_140_213, b_140_218, b_140_222, b_140_223, ↓reduceIte, Nat.reduceEqDiff, Nat.reduceMul, q_n10, q_n01, Option.bind_some, g_aft0, g_aft1, g_aft2, g_aft3, g_aft9, Nat.reduceAdd, m_kill_0, m_kill_2, m_kill_3, m_kill_4, m_kill_9, true_or, or_true, q_lm1, q_l0, q_l1, q_l2, q_l3, q_l4, q_l5, q_l6, q_l8, q_l9, q_l10, q_l12, q_l17, q_l32, q_l35, q_l48, q_l50, q_l54, q_l57, q_l64, q_l73, q_l118, q_l119, q_l120, q_l122, q_l126, q_l160, q_l256, q_l365, q_l372, q_l438, q_l1000, q_l100000, q_l1000000, q_clsF hL.1, q_scrF hL.2.2.2.2.2.1, q_n1F hL, q_obF hL, r_get, r_set, g0, g1, hr, hkd, e119, e118, e120, hV, s1]
      rfl
    · rw [if_neg hd]
      refine ⟨σ, ?_, h, fun _ _ => rfl⟩
      have wSd : ¬ w32 (y_sv N x y) = 0 := by rw [wS]; exact hd
      simp only [e_140, b_140_0, b_140_11, b_140_23, b_140_35, b_140_68, b_140_77, b_140_84, b_140_96, b_140_101, b_140_105, b_140_106, b_140_107, b_140_116, b_140_123, b_140_135, b_140_140, b_140_144, b_140_145, b_140_146, b_140_156, b_140_163, b_140_173, b_140_174, b_140_179, b_140_183, b_140_184, b_140_185, b_140_195, b_140_202, b_140_212, b_140_213, b_140_218, b_140_222, b_140_223, ↓reduceIte, Nat.reduceEqDiff, Nat.reduceMul, q_n10, q_n01, Option.bind_some, g_aft0, g_aft1, g_aft2, g_aft3, g_aft9, Nat.reduceAdd, m_kill_0, m_kill_2, m_kill_3, m_kill_4, m_kill_9, true_or, or_true, q_lm1, q_l0, q_l1, q_l2, q_l3, q_l4, q_l5, q_l6, q_l8, q_l9, q_l10, q_l12, q_l17, q_l32, q_l35, q_l48, q_l50, q_l54, q_l57, q_l64, q_l73, q_l118, q_l119, q_l120, q_l122, q_l126, q_l160, q_l256, q_l365, q_l372, q_l438, q_l1000, q_l100000, q_l1000000, q_clsF hL.1, q_scrF hL.2.2.2.2.2.1, q_n1F hL, q_obF hL, r_get, r_set, g0, g1, hr, hkd, e119, e118, e120, hV, wSd]
      rfl
  · -- v
    unfold y_do
    rw [if_neg (by decide), if_pos rfl]
    by_cases hd : y_sv N x y = 0
    · rw [if_pos hd]
      obtain ⟨q1, q2, q3⟩ := y_sv0 hd
      have hi : x.toNat < 8 := by clear wx wy g0 g1 hr e119 e118 e120 e35 hV wS; omega
      have s1 : q_set σ 5 8 x y = m_up2 σ 5 x.toNat y := q_set_ok q1.1 (by clear wx wy g0 g1 hr e119 e118 e120 e35 hV wS; omega) (by omega)
      rw [hd] at hV
      refine ⟨m_up2 σ (1 + 4) x.toNat y, ?_, ⟨(wf_wt h.1 hi q2 q3).2, nf_up h.2.1 (by rw [q_len2]; simpa using hi), nAt_up h.2.2⟩, fun a ha => m_up2_ne (by omega)⟩
      simp only [e_140, b_140_0, b_140_11, b_140_23, b_140_35, b_140_68, b_140_77, b_140_84, b_140_96, b_140_101, b_140_105, b_140_106, b_140_107, b_140_116, b_140_123, b_140_135, b_140_140, b_140_144, b_140_145, b_140_146, b_140_156, b_140_163, b_140_173, b_140_174, b_140_179, b_140_183, b_140_184, b_140_185, b_140_195, b_140_202, b_140_212, b_140_213, b_140_218, b_140_222, b_140_223, ↓reduceIte, Nat.reduceEqDiff, Nat.reduceMul, q_n10, q_n01, Option.bind_some, g_aft0, g_aft1, g_aft2, g_aft3, g_aft9, Nat.reduceAdd, m_kill_0, m_kill_2, m_kill_3, m_kill_4, m_kill_9, true_or, or_true, q_lm1, q_l0, q_l1, q_l2, q_l3, q_l4, q_l5, q_l6, q_l8, q_l9, q_l10, q_l12, q_l17, q_l32, q_l35, q_l48, q_l50, q_l54, q_l57, q_l64, q_l73, q_l118, q_l119, q_l120, q_l122, q_l126, q_l160, q_l256, q_l365, q_l372, q_l438, q_l1000, q_l100000, q_l1000000, q_clsF hL.1, q_scrF hL.2.2.2.2.2.1, q_n1F hL, q_obF hL, r_get, r_set, g0, g1, hr, hkd, e119, e118, e120, hV, s1]
    · rw [if_neg hd]
      refine ⟨σ, ?_, h, fun _ _ => rfl⟩
      have wSd : ¬ w32 (y_sv N x y) = 0 := by rw [wS]; exact hd
      simp only [e_140, b_140_0, b_140_11, b_140_23, b_140_35, b_140_68, b_140_77, b_140_84, b_140_96, b_140_101, b_140_105, b_140_106, b_140_107, b_140_116, b_140_123, b_140_135, b_140_140, b_140_144, b_140_145, b_140_146, b_140_156, b_140_163, b_140_173, b_140_174, b_140_179, b_140_183, b_140_184, b_140_185, b_140_195, b_140_202, b_140_212, b_140_213, b_140_218, b_140_222, b_140_223, ↓reduceIte, Nat.reduceEqDiff, Nat.reduceMul, q_n10, q_n01, Option.bind_some, g_aft0, g_aft1, g_aft2, g_aft3, g_aft9, Nat.reduceAdd, m_kill_0, m_kill_2, m_kill_3, m_kill_4, m_kill_9, true_or, or_true, q_lm1, q_l0, q_l1, q_l2, q_l3, q_l4, q_l5, q_l6, q_l8, q_l9, q_l10, q_l12, q_l17, q_l32, q_l35, q_l48, q_l50, q_l54, q_l57, q_l64, q_l73, q_l118, q_l119, q_l120, q_l122, q_l126, q_l160, q_l256, q_l365, q_l372, q_l438, q_l1000, q_l100000, q_l1000000, q_clsF hL.1, q_scrF hL.2.2.2.2.2.1, q_n1F hL, q_obF hL, r_get, r_set, g0, g1, hr, hkd, e119, e118, e120, hV, wSd]
  · -- x
    unfold y_do
    rw [if_neg (by decide), if_neg (by decide), if_pos rfl]
    obtain ⟨z1, z2⟩ := rz (Or.inl rfl)
    rw [z1] at hr
    have wz : w32 z = z := q_wi (by clear wx wy g0 g1 hr e119 e118 e120 e35 hV wS; omega) (by clear wx wy g0 g1 hr e119 e118 e120 e35 hV wS; omega)
    have hF := a_whyF (Z := Z) (e := e) (s := s) hL h wx wy wz
    by_cases hd : y_fb N x y z = 0
    · rw [if_pos hd]
      obtain ⟨q1, q2, q3, q4, q5⟩ := y_fb0 hd
      have h6 : w_ns N < 6 := by clear wx wy wz g0 g1 hr e119 e118 e120 e35 hV hF wS; omega
      have n1 : σ 1 2 = (w_ns N : Int) := by rw [nAt_0 h.2.2 (by omega)]; exact hns.1
      have s1 : ∀ ω v, q_set ω (1 + 12) 6 (w_ns N : Int) v = m_up2 ω (1 + 12) (w_ns N) v := fun ω v => q_set_nat h6 (by omega)
      have s2 : ∀ ω v, q_set ω (1 + 14) 6 (w_ns N : Int) v = m_up2 ω (1 + 14) (w_ns N) v := fun ω v => q_set_nat h6 (by omega)
      have s3 : ∀ ω v, q_set ω (1 + 16) 6 (w_ns N : Int) v = m_up2 ω (1 + 16) (w_ns N) v := fun ω v => q_set_nat h6 (by omega)
      have hadd := n_addStretch (Z := Z) (σ := σ) (n := 206) (e := e) (s := s) (x := x) (y := y) (l := z) (q_ntN hL).1
      rw [n1, s1, s2, s3] at hadd
      rw [hd] at hF
      refine ⟨_, ?_, ⟨wf_fb h.1 h6 q1.1 q1.2 q2 q3 q4, nf_fb h.2.1 h6, nAt_up0 (v := (w_ns N : Int) + 1) (k := 2) (nAt_up (nAt_up (nAt_up h.2.2)))⟩, fun a ha => by rw [m_up2_ne (by omega), m_up2_ne (by omega), m_up2_ne (by omega), m_up2_ne (by omega)]⟩
      simp only [e_140, b_140_0, b_140_11, b_140_23, b_140_35, b_140_68, b_140_77, b_140_84, b_140_96, b_140_101, b_140_105, b_140_106, b_140_107, b_140_116, b_140_123, b_140_135, b_140_140, b_140_144, b_140_145, b_140_146, b_140_156, b_140_163, b_140_173, b_140_174, b_140_179, b_140_183, b_140_184, b_140_185, b_140_195, b_140_202, b_140_212, b_140_213, b_140_218, b_140_222, b_140_223, ↓reduceIte, Nat.reduceEqDiff, Nat.reduceMul, q_n10, q_n01, Option.bind_some, g_aft0, g_aft1, g_aft2, g_aft3, g_aft9, Nat.reduceAdd, m_kill_0, m_kill_2, m_kill_3, m_kill_4, m_kill_9, true_or, or_true, q_lm1, q_l0, q_l1, q_l2, q_l3, q_l4, q_l5, q_l6, q_l8, q_l9, q_l10, q_l12, q_l17, q_l32, q_l35, q_l48, q_l50, q_l54, q_l57, q_l64, q_l73, q_l118, q_l119, q_l120, q_l122, q_l126, q_l160, q_l256, q_l365, q_l372, q_l438, q_l1000, q_l100000, q_l1000000, q_clsF hL.1, q_scrF hL.2.2.2.2.2.1, q_n1F hL, q_obF hL, r_get, r_set, g0, g1, hr, hkd, e119, e118, e120, hF, hadd]
      rfl
    · rw [if_neg hd]
      refine ⟨σ, ?_, h, fun _ _ => rfl⟩
      have wSd : ¬ w32 (y_fb N x y z) = 0 := by rw [wv _ y_fb_r]; exact hd
      simp only [e_140, b_140_0, b_140_11, b_140_23, b_140_35, b_140_68, b_140_77, b_140_84, b_140_96, b_140_101, b_140_105, b_140_106, b_140_107, b_140_116, b_140_123, b_140_135, b_140_140, b_140_144, b_140_145, b_140_146, b_140_156, b_140_163, b_140_173, b_140_174, b_140_179, b_140_183, b_140_184, b_140_185, b_140_195, b_140_202, b_140_212, b_140_213, b_140_218, b_140_222, b_140_223, ↓reduceIte, Nat.reduceEqDiff, Nat.reduceMul, q_n10, q_n01, Option.bind_some, g_aft0, g_aft1, g_aft2, g_aft3, g_aft9, Nat.reduceAdd, m_kill_0, m_kill_2, m_kill_3, m_kill_4, m_kill_9, true_or, or_true, q_lm1, q_l0, q_l1, q_l2, q_l3, q_l4, q_l5, q_l6, q_l8, q_l9, q_l10, q_l12, q_l17, q_l32, q_l35, q_l48, q_l50, q_l54, q_l57, q_l64, q_l73, q_l118, q_l119, q_l120, q_l122, q_l126, q_l160, q_l256, q_l365, q_l372, q_l438, q_l1000, q_l100000, q_l1000000, q_clsF hL.1, q_scrF hL.2.2.2.2.2.1, q_n1F hL, q_obF hL, r_get, r_set, g0, g1, hr, hkd, e119, e118, e120, hF, wSd]
      rfl
  · -- an edge
    unfold y_do
    rw [if_neg (by decide), if_neg (by decide), if_neg (by decide)]
    obtain ⟨z1, z2⟩ := rz (Or.inr rfl)
    rw [z1] at hr
    have wz : w32 z = z := q_wi (by clear wx wy g0 g1 hr e119 e118 e120 e35 hV wS; omega) (by clear wx wy g0 g1 hr e119 e118 e120 e35 hV wS; omega)
    have hF := a_whyE (Z := Z) (e := e) (s := s) hL h wx wy wz
    by_cases hd : y_cn N x y z = 0
    · rw [if_pos hd]
      obtain ⟨q1, q2, q3, q5, hj⟩ := y_cn0 h.1 hd
      have n1 : σ 1 1 = (w_ne N : Int) := by rw [nAt_0 h.2.2 (by omega)]; exact hne.1
      have s1 : ∀ ω v, q_set ω (1 + 6) 12 (w_ne N : Int) v = m_up2 ω (1 + 6) (w_ne N) v := fun ω v => q_set_nat q5 (by omega)
      have s2 : ∀ ω v, q_set ω (1 + 8) 12 (w_ne N : Int) v = m_up2 ω (1 + 8) (w_ne N) v := fun ω v => q_set_nat q5 (by omega)
      have s3 : ∀ ω v, q_set ω (1 + 10) 12 (w_ne N : Int) v = m_up2 ω (1 + 10) (w_ne N) v := fun ω v => q_set_nat q5 (by omega)
      have hadd := n_addEdge (Z := Z) (σ := σ) (n := 206) (e := e) (s := s) (x := x) (y := y) (l := z) (q_ntN hL).1
      rw [n1, s1, s2, s3] at hadd
      rw [hd] at hF
      refine ⟨_, ?_, ⟨wf_cn h.1 q5 q1.1 q1.2 q2.1 q2.2 (fun q => q3 (Or.inl q)) (by clear wx wy wz g0 g1 hr e119 e118 e120 e35 hV hF wS hadd n1; omega) (by clear wx wy wz g0 g1 hr e119 e118 e120 e35 hV hF wS hadd n1; omega) hj, nf_cn h.2.1 q5, nAt_up0 (v := (w_ne N : Int) + 1) (k := 1) (nAt_up (nAt_up (nAt_up h.2.2)))⟩, fun a ha => by rw [m_up2_ne (by omega), m_up2_ne (by omega), m_up2_ne (by omega), m_up2_ne (by omega)]⟩
      simp only [e_140, b_140_0, b_140_11, b_140_23, b_140_35, b_140_68, b_140_77, b_140_84, b_140_96, b_140_101, b_140_105, b_140_106, b_140_107, b_140_116, b_140_123, b_140_135, b_140_140, b_140_144, b_140_145, b_140_146, b_140_156, b_140_163, b_140_173, b_140_174, b_140_179, b_140_183, b_140_184, b_140_185, b_140_195, b_140_202, b_140_212, b_140_213, b_140_218, b_140_222, b_140_223, ↓reduceIte, Nat.reduceEqDiff, Nat.reduceMul, q_n10, q_n01, Option.bind_some, g_aft0, g_aft1, g_aft2, g_aft3, g_aft9, Nat.reduceAdd, m_kill_0, m_kill_2, m_kill_3, m_kill_4, m_kill_9, true_or, or_true, q_lm1, q_l0, q_l1, q_l2, q_l3, q_l4, q_l5, q_l6, q_l8, q_l9, q_l10, q_l12, q_l17, q_l32, q_l35, q_l48, q_l50, q_l54, q_l57, q_l64, q_l73, q_l118, q_l119, q_l120, q_l122, q_l126, q_l160, q_l256, q_l365, q_l372, q_l438, q_l1000, q_l100000, q_l1000000, q_clsF hL.1, q_scrF hL.2.2.2.2.2.1, q_n1F hL, q_obF hL, r_get, r_set, g0, g1, hr, hkd, e35, e119, e118, e120, hF, hadd]
      rfl
    · rw [if_neg hd]
      refine ⟨σ, ?_, h, fun _ _ => rfl⟩
      have wSd : ¬ w32 (y_cn N x y z) = 0 := by rw [wv _ y_cn_r]; exact hd
      simp only [e_140, b_140_0, b_140_11, b_140_23, b_140_35, b_140_68, b_140_77, b_140_84, b_140_96, b_140_101, b_140_105, b_140_106, b_140_107, b_140_116, b_140_123, b_140_135, b_140_140, b_140_144, b_140_145, b_140_146, b_140_156, b_140_163, b_140_173, b_140_174, b_140_179, b_140_183, b_140_184, b_140_185, b_140_195, b_140_202, b_140_212, b_140_213, b_140_218, b_140_222, b_140_223, ↓reduceIte, Nat.reduceEqDiff, Nat.reduceMul, q_n10, q_n01, Option.bind_some, g_aft0, g_aft1, g_aft2, g_aft3, g_aft9, Nat.reduceAdd, m_kill_0, m_kill_2, m_kill_3, m_kill_4, m_kill_9, true_or, or_true, q_lm1, q_l0, q_l1, q_l2, q_l3, q_l4, q_l5, q_l6, q_l8, q_l9, q_l10, q_l12, q_l17, q_l32, q_l35, q_l48, q_l50, q_l54, q_l57, q_l64, q_l73, q_l118, q_l119, q_l120, q_l122, q_l126, q_l160, q_l256, q_l365, q_l372, q_l438, q_l1000, q_l100000, q_l1000000, q_clsF hL.1, q_scrF hL.2.2.2.2.2.1, q_n1F hL, q_obF hL, r_get, r_set, g0, g1, hr, hkd, e35, e119, e118, e120, hF, wSd]
      rfl
end
end
