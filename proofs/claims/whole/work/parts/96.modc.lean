section
/-! The model: sets, weights. -/
theorem t_srN : ∀ n : Fin 9, (Int32.ofInt ((n.val : Nat) : Int) &&& 31) = Int32.ofNat n.val := by decide
theorem t_srM : ∀ n : Fin 9, ((Int32.ofNat n.val).toBitVec.smod 32).toNat = n.val := by decide
theorem i_shr_ok {x : Int} {n : Nat} (hn : n ≤ 8) (hx : w32 x = x) : i_shr x (n : Int) = x / ((2 ^ n : Nat) : Int) := by
  unfold i_shr
  rw [t_srN ⟨n, by omega⟩]
  show ((Int32.ofInt x >>> Int32.ofNat n).toBitVec).toInt = _
  rw [Int32.toBitVec_shiftRight]
  show (BitVec.sshiftRight (Int32.ofInt x).toBitVec ((Int32.ofNat n).toBitVec.smod 32).toNat).toInt = _
  rw [BitVec.toInt_sshiftRight, t_srM ⟨n, by omega⟩, Int.shiftRight_eq_div_pow]
  have e : (Int32.ofInt x).toBitVec.toInt = x := by
    show (Int32.ofInt x).toInt = x
    rw [Int32.toInt_ofInt]
    exact hx
  rw [e]
section
variable {Z : mZ} {K : Nat → mK} {σ τ N M : Nat → Nat → Int} {e g i L n c k s a b : Nat} {t p q v x y z w u S : Int} {X : Nat → Int} {h : mH} {R : Nat → Nat → Nat → Int} {T : Nat → Int}
theorem z_isSet (hL : q_lay K) (hn : z_n σ N) (hx : w32 x = x) : m_cl Z 202 [(2, ((191 : Nat) : Int)), (0, x)] (K, σ, 206, e, s) = some (.inl (0, if 0 ≤ x ∧ x < ((2 ^ w_nn N : Nat) : Int) then 1 else 0), (K, σ, 206, e, s)) := by
  have hm := z_many (Z := Z) (e := e) (s := s) hL hn
  have n0 := wf_n hn.1
  have p8 := q_pow8 n0.2.2
  have hs := i_shr_ok n0.2.2 hx
  rw [n0.1] at hm
  by_cases c1 : x < 0
  · rw [if_neg (by clear hx hs; omega)]
    simp only [e_202, b_202_0, b_202_4, b_202_9, b_202_13, b_202_17, b_202_18, ↓reduceIte, Nat.reduceEqDiff, Nat.reduceMul, q_n10, q_n01, Option.bind_some, g_aft0, g_aft1, g_aft2, g_aft3, g_aft9, Nat.reduceAdd, m_kill_0, m_kill_2, m_kill_3, m_kill_4, m_kill_9, true_or, or_true, q_lm1, q_l0, q_l1, q_l2, q_l3, q_l4, q_l5, q_l6, q_l8, q_l9, q_l10, q_l12, q_l17, q_l32, q_l35, q_l48, q_l50, q_l54, q_l57, q_l64, q_l73, q_l118, q_l119, q_l120, q_l122, q_l126, q_l160, q_l256, q_l365, q_l372, q_l438, q_l1000, q_l100000, q_l1000000, hx, c1, true_or]
  · have xb : x ≤ 2147483647 := by
      have h2 : w32 x < 2147483648 := Int.bmod_lt (by decide)
      rw [hx] at h2
      clear hx hs; omega
    generalize 2 ^ w_nn N = P at *
    have d0 : 0 ≤ x / (P : Int) := Int.ediv_nonneg (by clear hx hs; omega) (by clear hx hs; omega)
    have d1 : x / (P : Int) ≤ x := Int.ediv_le_self _ (by clear hx hs; omega)
    have wd : w32 (x / (P : Int)) = x / (P : Int) := by clear hx hs; exact q_wB (by omega) (by omega)
    by_cases c2 : x < (P : Int)
    · have e0 : x / (P : Int) = 0 := Int.ediv_eq_zero_of_lt (by clear hx hs wd; omega) c2
      rw [if_pos ⟨by clear hx hs wd; omega, c2⟩]
      rw [e0] at hs
      simp only [e_202, b_202_0, b_202_4, b_202_9, b_202_13, b_202_17, b_202_18, ↓reduceIte, Nat.reduceEqDiff, Nat.reduceMul, q_n10, q_n01, Option.bind_some, g_aft0, g_aft1, g_aft2, g_aft3, g_aft9, Nat.reduceAdd, m_kill_0, m_kill_2, m_kill_3, m_kill_4, m_kill_9, true_or, or_true, q_lm1, q_l0, q_l1, q_l2, q_l3, q_l4, q_l5, q_l6, q_l8, q_l9, q_l10, q_l12, q_l17, q_l32, q_l35, q_l48, q_l50, q_l54, q_l57, q_l64, q_l73, q_l118, q_l119, q_l120, q_l122, q_l126, q_l160, q_l256, q_l365, q_l372, q_l438, q_l1000, q_l100000, q_l1000000, q_modF hL.2.2.2.2.2.2.1, hx, c1, hm, hs]
    · have e0 : ¬ x / (P : Int) = 0 := by
        intro q
        have := Int.lt_mul_ediv_self_add (x := x) (k := (P : Int)) (by clear hx hs wd; omega)
        rw [q] at this
        clear hx hs wd; omega
      rw [if_neg (fun q => c2 q.2)]
      simp only [e_202, b_202_0, b_202_4, b_202_9, b_202_13, b_202_17, b_202_18, ↓reduceIte, Nat.reduceEqDiff, Nat.reduceMul, q_n10, q_n01, Option.bind_some, g_aft0, g_aft1, g_aft2, g_aft3, g_aft9, Nat.reduceAdd, m_kill_0, m_kill_2, m_kill_3, m_kill_4, m_kill_9, true_or, or_true, q_lm1, q_l0, q_l1, q_l2, q_l3, q_l4, q_l5, q_l6, q_l8, q_l9, q_l10, q_l12, q_l17, q_l32, q_l35, q_l48, q_l50, q_l54, q_l57, q_l64, q_l73, q_l118, q_l119, q_l120, q_l122, q_l126, q_l160, q_l256, q_l365, q_l372, q_l438, q_l1000, q_l100000, q_l1000000, q_modF hL.2.2.2.2.2.2.1, hx, c1, hm, hs, wd, e0, true_or]
def z_wgt (σ N : Nat → Nat → Int) (t : Int) : Prop := ∀ i, i < w_nn N → σ 197 i = w_W N t i
theorem z_weighs (hL : q_lay K) (hn : z_n σ N) : ∃ τ, m_cl Z 199 [(2, ((191 : Nat) : Int)), (0, t)] (K, σ, 206, e, s) = some (.inl (9, 0), (K, τ, 206, e, s)) ∧ z_wgt τ N t ∧ ∀ a, a ≠ 197 → τ a = σ a := by
  have n0 := wf_n hn.1
  obtain ⟨f, hf⟩ : ∃ f : Nat → Int, f = fun j : Nat => σ 192 (1 + j) + t * σ 192 (9 + j) := ⟨_, rfl⟩
  have w8 : w32 8 = 8 := by decide
  have lp := q_loopf (Z := Z) (N := 8) (S := fun i => (199, 2, [(2, ((191 : Nat) : Int)), (0, t), (0, (i : Int))], [], (K, q_fill σ 197 i f, 206, e, s))) (by
    intro i hi
    have wi : w32 (i : Int) = (i : Int) := q_w (by clear w8; omega)
    have c0 : ¬ (8 : Int) ≤ (i : Int) := by clear wi w8; omega
    have p0 : 0 ≤ (i : Int) := by clear wi w8; omega
    have p1 : (i : Int) < ((8 : Nat) : Int) := by clear wi w8; omega
    have tn : ((i : Int)).toNat = i := rfl
    obtain ⟨i1, i2, i3⟩ := z_ix (x := 1 + (i : Int)) (m := 1 + i) (L' := 73) (by clear wi w8; omega) (by clear wi w8; omega) (by omega)
    obtain ⟨j1, j2, j3⟩ := z_ix (x := 9 + (i : Int)) (m := 9 + i) (L' := 73) (by clear wi w8 i1 i2 i3; omega) (by clear wi w8 i1 i2 i3; omega) (by omega)
    have e1 : ((i + 1 : Nat) : Int) = (i : Int) + 1 := rfl
    have h192 : ∀ j, q_fill σ 197 i f 192 j = σ 192 j := fun j => by rw [q_fill_ne (by omega)]
    have fi : f i = σ 192 (1 + i) + t * σ 192 (9 + i) := by rw [hf]
    rw [e1, ← q_fill_s σ 197 i f, fi]
    conv => lhs; simp only [b_199_2, ↓reduceIte, Nat.reduceEqDiff, Nat.reduceMul, q_n10, q_n01, Option.bind_some, g_aft0, g_aft1, g_aft2, g_aft3, g_aft9, Nat.reduceAdd, m_kill_0, m_kill_2, m_kill_3, m_kill_4, m_kill_9, true_or, or_true, q_lm1, q_l0, q_l1, q_l2, q_l3, q_l4, q_l5, q_l6, q_l8, q_l9, q_l10, q_l12, q_l17, q_l32, q_l35, q_l48, q_l50, q_l54, q_l57, q_l64, q_l73, q_l118, q_l119, q_l120, q_l122, q_l126, q_l160, q_l256, q_l365, q_l372, q_l438, q_l1000, q_l100000, q_l1000000, wi, w8, c0]
    simp only [b_199_8, ↓reduceIte, Nat.reduceEqDiff, Nat.reduceMul, q_n10, q_n01, Option.bind_some, g_aft0, g_aft1, g_aft2, g_aft3, g_aft9, Nat.reduceAdd, m_kill_0, m_kill_2, m_kill_3, m_kill_4, m_kill_9, true_or, or_true, q_lm1, q_l0, q_l1, q_l2, q_l3, q_l4, q_l5, q_l6, q_l8, q_l9, q_l10, q_l12, q_l17, q_l32, q_l35, q_l48, q_l50, q_l54, q_l57, q_l64, q_l73, q_l118, q_l119, q_l120, q_l122, q_l126, q_l160, q_l256, q_l365, q_l372, q_l438, q_l1000, q_l100000, q_l1000000, q_modF hL.2.2.2.2.2.2.1, wi, i1, i2, i3, j1, j2, j3, p0, p1, tn, h192])
  have e0 : q_fill σ 197 0 f = σ := q_fill_0 _ _ _
  rw [e0] at lp
  have w8' : w32 ((8 : Nat) : Int) = 8 := by decide
  refine ⟨q_fill σ 197 8 f, ?_, fun i hi => ?_, fun a ha => q_fill_ne ha⟩
  · rw [e_199, b_199_0]
    refine Eq.trans lp ?_
    simp only [b_199_2, b_199_40, ↓reduceIte, Nat.reduceEqDiff, Nat.reduceMul, q_n10, q_n01, Option.bind_some, g_aft0, g_aft1, g_aft2, g_aft3, g_aft9, Nat.reduceAdd, m_kill_0, m_kill_2, m_kill_3, m_kill_4, m_kill_9, true_or, or_true, q_lm1, q_l0, q_l1, q_l2, q_l3, q_l4, q_l5, q_l6, q_l8, q_l9, q_l10, q_l12, q_l17, q_l32, q_l35, q_l48, q_l50, q_l54, q_l57, q_l64, q_l73, q_l118, q_l119, q_l120, q_l122, q_l126, q_l160, q_l256, q_l365, q_l372, q_l438, q_l1000, q_l100000, q_l1000000, w8, w8', Int.le_refl]
  · rw [q_fill_at (by clear w8 w8'; omega), hf]
    have hb := hn.2.2.1 i hi
    show σ 192 (1 + i) + t * σ 192 (9 + i) = N 2 i + t * N 4 i
    rw [hb.1, hb.2]
/-- what heights and costs are computed from -/
def z_sur (σ N : Nat → Nat → Int) (t : Int) : Prop := z_n σ N ∧ z_far σ N ∧ z_wgt σ N t ∧ w_cn N
theorem z_surF (h : z_sur σ N t) (hf : ∀ a, a = 192 ∨ a = 196 ∨ a = 197 → τ a = σ a) : z_sur τ N t := by
  obtain ⟨h1, h2, h3, h4⟩ := h
  exact ⟨z_nF h1 (hf 192 (Or.inl rfl)), fun a b ha hb => by rw [hf 196 (Or.inr (Or.inl rfl))]; exact h2 a b ha hb, fun i hi => by rw [hf 197 (Or.inr (Or.inr rfl))]; exact h3 i hi, h4⟩
theorem z_pqb (hw : q_wf N) (hg : g < w_ne N) (hp : w_pq N t g p q) : 0 ≤ p ∧ p ≤ 50000 ∧ 0 ≤ q ∧ q ≤ 1000 := by
  have h7 := wf_ed hw hg
  obtain ⟨h1, h2, h3, h4, h5, h6⟩ := hp
  have m := q_mb (show 0 ≤ N 10 g by omega) h7.2.2.2.2.2.2 (show 0 ≤ q by omega) h2
  omega
theorem z_aw (hL : q_lay K) (h : z_sur σ N t) (hg : g < w_ne N) (hi : i < w_nn N) (hp : w_pq N t g p q) : m_cl Z 193 [(2, ((191 : Nat) : Int)), (0, (i : Int)), (0, (g : Int)), (1, p), (1, q)] (K, σ, 206, e, s) = some (.inl (1, w_o N g i * q + p), (K, σ, 206, e, s)) ∧ m_cl Z 194 [(2, ((191 : Nat) : Int)), (0, (i : Int)), (0, (g : Int)), (1, p), (1, q)] (K, σ, 206, e, s) = some (.inl (1, w_b N g i * q - p), (K, σ, 206, e, s)) ∧ m_cl Z 195 [(2, ((191 : Nat) : Int)), (0, (i : Int)), (0, (g : Int)), (1, p), (1, q)] (K, σ, 206, e, s) = some (.inl (1, w_R N g i p q), (K, σ, 206, e, s)) := by
  obtain ⟨h1, h2, h3, h4⟩ := z_pqb h.1.1 hg hp
  have h7 := wf_ed h.1.1 hg
  have hd := w_D_cn h.1.1 h.2.2.2 hi h7.2.2.1
  exact z_away hL h.1 h.2.1 hg hi (by omega) h1 h2 h3 h4
theorem z_height (hL : q_lay K) (h : z_sur σ N t) (ht : 0 ≤ t) (ht2 : t ≤ 10) (hg : g < w_ne N) (hp : w_pq N t g p q) : m_cl Z 200 [(2, ((191 : Nat) : Int)), (0, S), (0, (g : Int)), (1, p), (1, q)] (K, σ, 206, e, s) = some (.inl (1, w_H N t S g p q (w_nn N)), (K, σ, 206, e, s)) := by
  have hw := h.1.1
  have hc := h.2.2.2
  have n0 := wf_n hw
  have hm := z_many (Z := Z) (e := e) (s := s) hL h.1
  have wn : w32 (N 0 0) = N 0 0 := q_wi (by omega) (by omega)
  obtain ⟨y, y1, -⟩ := q_loop (Z := Z) (N := w_nn N) (α := mV × mV) (S := fun i x => (200, 6, [(2, ((191 : Nat) : Int)), (0, S), (0, (g : Int)), (1, p), (9, 0), (1, q), (9, 0), (1, w_H N t S g p q i), (9, 0), (0, (i : Int)), x.1, x.2], [], (K, σ, 206, e, s))) (P := fun _ _ => True) (by
    intro i x hi _
    have hH := w_Hb hw hc hg hp (S := S) i (by clear wn; omega)
    have hF := w_Fb hw hc hg hi hp
    have ha := (z_aw (Z := Z) (e := e) (s := s) hL h hg hi hp).2.2
    have hh := z_has (Z := Z) (S := S) (i := i) (h := (K, σ, 206, e, s))
    have wi : w32 (i : Int) = (i : Int) := q_w (by clear wn; omega)
    have c0 : ¬ N 0 0 ≤ (i : Int) := by clear wn wi; omega
    have p0 : 0 ≤ (i : Int) := by clear wn wi; omega
    have p1 : (i : Int) < ((8 : Nat) : Int) := by clear wn wi; omega
    have tn : ((i : Int)).toNat = i := rfl
    have hwt := h.2.2.1 i hi
    have bw := w_Wb hw (show i < 8 by clear wn wi; omega) ht
    have ww : w32 (w_W N t i) = w_W N t i := by clear wn wi; exact q_wi (by omega) (by omega)
    have e1 : ((i + 1 : Nat) : Int) = (i : Int) + 1 := rfl
    have wH : w64 (w_H N t S g p q i) = w_H N t S g p q i := by clear wn wi ww; exact q_w64 (by omega) (by omega)
    have eF : w_W N t i * w_R N g i p q = w_F N t g i p q := rfl
    have wF : w64 (w_F N t g i p q) = w_F N t g i p q := by clear wn wi ww wH; exact q_w64 (by omega) (by omega)
    have hc1 : (w32 (l_cmp (w_F N t g i p q) (w_H N t S g p q i)) ≤ 0) = (w_F N t g i p q ≤ w_H N t S g p q i) := l_cle wF wH
    have hc2 : (w32 (l_cmp 0 (w_H N t S g p q i)) ≤ 0) = (0 ≤ w_H N t S g p q i) := l_cle (by decide) wH
    have hs : w_H N t S g p q (i + 1) = if q_bt S i = true ∧ w_H N t S g p q i < w_F N t g i p q then w_F N t g i p q else w_H N t S g p q i := rfl
    by_cases d : q_bt S i = true
    · rw [if_pos d] at hh
      by_cases c1 : w_F N t g i p q ≤ w_H N t S g p q i
      · refine ⟨((1, w_F N t g i p q), (9, 0)), ?_, trivial⟩
        rw [e1, hs, if_neg (by clear wn wi ww wH wF hc1 hc2; omega)]
        conv => lhs; simp only [b_200_6, ↓reduceIte, Nat.reduceEqDiff, Nat.reduceMul, q_n10, q_n01, Option.bind_some, g_aft0, g_aft1, g_aft2, g_aft3, g_aft9, Nat.reduceAdd, m_kill_0, m_kill_2, m_kill_3, m_kill_4, m_kill_9, true_or, or_true, q_lm1, q_l0, q_l1, q_l2, q_l3, q_l4, q_l5, q_l6, q_l8, q_l9, q_l10, q_l12, q_l17, q_l32, q_l35, q_l48, q_l50, q_l54, q_l57, q_l64, q_l73, q_l118, q_l119, q_l120, q_l122, q_l126, q_l160, q_l256, q_l365, q_l372, q_l438, q_l1000, q_l100000, q_l1000000, q_modF hL.2.2.2.2.2.2.1, hm]
        conv => lhs; simp only [b_200_12, ↓reduceIte, Nat.reduceEqDiff, Nat.reduceMul, q_n10, q_n01, Option.bind_some, g_aft0, g_aft1, g_aft2, g_aft3, g_aft9, Nat.reduceAdd, m_kill_0, m_kill_2, m_kill_3, m_kill_4, m_kill_9, true_or, or_true, q_lm1, q_l0, q_l1, q_l2, q_l3, q_l4, q_l5, q_l6, q_l8, q_l9, q_l10, q_l12, q_l17, q_l32, q_l35, q_l48, q_l50, q_l54, q_l57, q_l64, q_l73, q_l118, q_l119, q_l120, q_l122, q_l126, q_l160, q_l256, q_l365, q_l372, q_l438, q_l1000, q_l100000, q_l1000000, wi, wn, c0]
        simp only [b_200_15, b_200_21, b_200_24, b_200_42, b_200_62, b_200_64, ↓reduceIte, Nat.reduceEqDiff, Nat.reduceMul, q_n10, q_n01, Option.bind_some, g_aft0, g_aft1, g_aft2, g_aft3, g_aft9, Nat.reduceAdd, m_kill_0, m_kill_2, m_kill_3, m_kill_4, m_kill_9, true_or, or_true, q_lm1, q_l0, q_l1, q_l2, q_l3, q_l4, q_l5, q_l6, q_l8, q_l9, q_l10, q_l12, q_l17, q_l32, q_l35, q_l48, q_l50, q_l54, q_l57, q_l64, q_l73, q_l118, q_l119, q_l120, q_l122, q_l126, q_l160, q_l256, q_l365, q_l372, q_l438, q_l1000, q_l100000, q_l1000000, q_modF hL.2.2.2.2.2.2.1, hh, wi, p0, p1, tn, hwt, ww, ha, eF, hc1, c1]
      · refine ⟨((1, w_F N t g i p q), (9, 0)), ?_, trivial⟩
        rw [e1, hs, if_pos ⟨d, by clear wn wi ww wH wF hc1 hc2; omega⟩]
        conv => lhs; simp only [b_200_6, ↓reduceIte, Nat.reduceEqDiff, Nat.reduceMul, q_n10, q_n01, Option.bind_some, g_aft0, g_aft1, g_aft2, g_aft3, g_aft9, Nat.reduceAdd, m_kill_0, m_kill_2, m_kill_3, m_kill_4, m_kill_9, true_or, or_true, q_lm1, q_l0, q_l1, q_l2, q_l3, q_l4, q_l5, q_l6, q_l8, q_l9, q_l10, q_l12, q_l17, q_l32, q_l35, q_l48, q_l50, q_l54, q_l57, q_l64, q_l73, q_l118, q_l119, q_l120, q_l122, q_l126, q_l160, q_l256, q_l365, q_l372, q_l438, q_l1000, q_l100000, q_l1000000, q_modF hL.2.2.2.2.2.2.1, hm]
        conv => lhs; simp only [b_200_12, ↓reduceIte, Nat.reduceEqDiff, Nat.reduceMul, q_n10, q_n01, Option.bind_some, g_aft0, g_aft1, g_aft2, g_aft3, g_aft9, Nat.reduceAdd, m_kill_0, m_kill_2, m_kill_3, m_kill_4, m_kill_9, true_or, or_true, q_lm1, q_l0, q_l1, q_l2, q_l3, q_l4, q_l5, q_l6, q_l8, q_l9, q_l10, q_l12, q_l17, q_l32, q_l35, q_l48, q_l50, q_l54, q_l57, q_l64, q_l73, q_l118, q_l119, q_l120, q_l122, q_l126, q_l160, q_l256, q_l365, q_l372, q_l438, q_l1000, q_l100000, q_l1000000, wi, wn, c0]
        simp only [b_200_15, b_200_21, b_200_24, b_200_42, b_200_57, ↓reduceIte, Nat.reduceEqDiff, Nat.reduceMul, q_n10, q_n01, Option.bind_some, g_aft0, g_aft1, g_aft2, g_aft3, g_aft9, Nat.reduceAdd, m_kill_0, m_kill_2, m_kill_3, m_kill_4, m_kill_9, true_or, or_true, q_lm1, q_l0, q_l1, q_l2, q_l3, q_l4, q_l5, q_l6, q_l8, q_l9, q_l10, q_l12, q_l17, q_l32, q_l35, q_l48, q_l50, q_l54, q_l57, q_l64, q_l73, q_l118, q_l119, q_l120, q_l122, q_l126, q_l160, q_l256, q_l365, q_l372, q_l438, q_l1000, q_l100000, q_l1000000, q_modF hL.2.2.2.2.2.2.1, hh, wi, p0, p1, tn, hwt, ww, ha, eF, hc1, c1]
    · rw [if_neg d] at hh
      refine ⟨((1, 0), (9, 0)), ?_, trivial⟩
      rw [e1, hs, if_neg (fun q => d q.1)]
      conv => lhs; simp only [b_200_6, ↓reduceIte, Nat.reduceEqDiff, Nat.reduceMul, q_n10, q_n01, Option.bind_some, g_aft0, g_aft1, g_aft2, g_aft3, g_aft9, Nat.reduceAdd, m_kill_0, m_kill_2, m_kill_3, m_kill_4, m_kill_9, true_or, or_true, q_lm1, q_l0, q_l1, q_l2, q_l3, q_l4, q_l5, q_l6, q_l8, q_l9, q_l10, q_l12, q_l17, q_l32, q_l35, q_l48, q_l50, q_l54, q_l57, q_l64, q_l73, q_l118, q_l119, q_l120, q_l122, q_l126, q_l160, q_l256, q_l365, q_l372, q_l438, q_l1000, q_l100000, q_l1000000, q_modF hL.2.2.2.2.2.2.1, hm]
      conv => lhs; simp only [b_200_12, ↓reduceIte, Nat.reduceEqDiff, Nat.reduceMul, q_n10, q_n01, Option.bind_some, g_aft0, g_aft1, g_aft2, g_aft3, g_aft9, Nat.reduceAdd, m_kill_0, m_kill_2, m_kill_3, m_kill_4, m_kill_9, true_or, or_true, q_lm1, q_l0, q_l1, q_l2, q_l3, q_l4, q_l5, q_l6, q_l8, q_l9, q_l10, q_l12, q_l17, q_l32, q_l35, q_l48, q_l50, q_l54, q_l57, q_l64, q_l73, q_l118, q_l119, q_l120, q_l122, q_l126, q_l160, q_l256, q_l365, q_l372, q_l438, q_l1000, q_l100000, q_l1000000, wi, wn, c0]
      simp only [b_200_15, b_200_21, b_200_46, b_200_47, b_200_62, b_200_64, ↓reduceIte, Nat.reduceEqDiff, Nat.reduceMul, q_n10, q_n01, Option.bind_some, g_aft0, g_aft1, g_aft2, g_aft3, g_aft9, Nat.reduceAdd, m_kill_0, m_kill_2, m_kill_3, m_kill_4, m_kill_9, true_or, or_true, q_lm1, q_l0, q_l1, q_l2, q_l3, q_l4, q_l5, q_l6, q_l8, q_l9, q_l10, q_l12, q_l17, q_l32, q_l35, q_l48, q_l50, q_l54, q_l57, q_l64, q_l73, q_l118, q_l119, q_l120, q_l122, q_l126, q_l160, q_l256, q_l365, q_l372, q_l438, q_l1000, q_l100000, q_l1000000, q_modF hL.2.2.2.2.2.2.1, hh, hc2, hH.1]) (w_nn N) 0 ((9, 0), (9, 0)) (by clear wn; omega) trivial
  rw [e_200, b_200_0, m_kill_9]
  refine Eq.trans y1 ?_
  rw [n0.1] at hm wn
  conv => lhs; simp only [b_200_6, ↓reduceIte, Nat.reduceEqDiff, Nat.reduceMul, q_n10, q_n01, Option.bind_some, g_aft0, g_aft1, g_aft2, g_aft3, g_aft9, Nat.reduceAdd, m_kill_0, m_kill_2, m_kill_3, m_kill_4, m_kill_9, true_or, or_true, q_lm1, q_l0, q_l1, q_l2, q_l3, q_l4, q_l5, q_l6, q_l8, q_l9, q_l10, q_l12, q_l17, q_l32, q_l35, q_l48, q_l50, q_l54, q_l57, q_l64, q_l73, q_l118, q_l119, q_l120, q_l122, q_l126, q_l160, q_l256, q_l365, q_l372, q_l438, q_l1000, q_l100000, q_l1000000, q_modF hL.2.2.2.2.2.2.1, hm]
  simp only [b_200_12, b_200_72, ↓reduceIte, Nat.reduceEqDiff, Nat.reduceMul, q_n10, q_n01, Option.bind_some, g_aft0, g_aft1, g_aft2, g_aft3, g_aft9, Nat.reduceAdd, m_kill_0, m_kill_2, m_kill_3, m_kill_4, m_kill_9, true_or, or_true, q_lm1, q_l0, q_l1, q_l2, q_l3, q_l4, q_l5, q_l6, q_l8, q_l9, q_l10, q_l12, q_l17, q_l32, q_l35, q_l48, q_l50, q_l54, q_l57, q_l64, q_l73, q_l118, q_l119, q_l120, q_l122, q_l126, q_l160, q_l256, q_l365, q_l372, q_l438, q_l1000, q_l100000, q_l1000000, wn, Int.le_refl]
theorem z_cost (hL : q_lay K) (h : z_sur σ N t) (ht : 0 ≤ t) (ht2 : t ≤ 10) (hg : g < w_ne N) (hp : w_pq N t g p q) : m_cl Z 201 [(2, ((191 : Nat) : Int)), (0, (g : Int)), (1, p), (1, q)] (K, σ, 206, e, s) = some (.inl (1, w_C N t g p q (w_nn N)), (K, σ, 206, e, s)) := by
  have hw := h.1.1
  have hc := h.2.2.2
  have n0 := wf_n hw
  have hm := z_many (Z := Z) (e := e) (s := s) hL h.1
  have wn : w32 (N 0 0) = N 0 0 := q_wi (by omega) (by omega)
  have lp := q_loopf (Z := Z) (N := w_nn N) (S := fun i => (201, 6, [(2, ((191 : Nat) : Int)), (0, (g : Int)), (1, p), (9, 0), (1, q), (9, 0), (1, w_C N t g p q i), (9, 0), (0, (i : Int))], [], (K, σ, 206, e, s))) (by
    intro i hi
    have ha := (z_aw (Z := Z) (e := e) (s := s) hL h hg hi hp).2.2
    have wi : w32 (i : Int) = (i : Int) := q_w (by clear wn; omega)
    have c0 : ¬ N 0 0 ≤ (i : Int) := by clear wn wi; omega
    have p0 : 0 ≤ (i : Int) := by clear wn wi; omega
    have p1 : (i : Int) < ((8 : Nat) : Int) := by clear wn wi; omega
    have tn : ((i : Int)).toNat = i := rfl
    have hwt := h.2.2.1 i hi
    have bw := w_Wb hw (show i < 8 by clear wn wi; omega) ht
    have ww : w32 (w_W N t i) = w_W N t i := by clear wn wi; exact q_wi (by omega) (by omega)
    have e1 : ((i + 1 : Nat) : Int) = (i : Int) + 1 := rfl
    have hs : w_C N t g p q (i + 1) = w_C N t g p q i + w_W N t i * w_R N g i p q := rfl
    rw [e1, hs]
    conv => lhs; simp only [b_201_6, ↓reduceIte, Nat.reduceEqDiff, Nat.reduceMul, q_n10, q_n01, Option.bind_some, g_aft0, g_aft1, g_aft2, g_aft3, g_aft9, Nat.reduceAdd, m_kill_0, m_kill_2, m_kill_3, m_kill_4, m_kill_9, true_or, or_true, q_lm1, q_l0, q_l1, q_l2, q_l3, q_l4, q_l5, q_l6, q_l8, q_l9, q_l10, q_l12, q_l17, q_l32, q_l35, q_l48, q_l50, q_l54, q_l57, q_l64, q_l73, q_l118, q_l119, q_l120, q_l122, q_l126, q_l160, q_l256, q_l365, q_l372, q_l438, q_l1000, q_l100000, q_l1000000, q_modF hL.2.2.2.2.2.2.1, hm]
    conv => lhs; simp only [b_201_12, ↓reduceIte, Nat.reduceEqDiff, Nat.reduceMul, q_n10, q_n01, Option.bind_some, g_aft0, g_aft1, g_aft2, g_aft3, g_aft9, Nat.reduceAdd, m_kill_0, m_kill_2, m_kill_3, m_kill_4, m_kill_9, true_or, or_true, q_lm1, q_l0, q_l1, q_l2, q_l3, q_l4, q_l5, q_l6, q_l8, q_l9, q_l10, q_l12, q_l17, q_l32, q_l35, q_l48, q_l50, q_l54, q_l57, q_l64, q_l73, q_l118, q_l119, q_l120, q_l122, q_l126, q_l160, q_l256, q_l365, q_l372, q_l438, q_l1000, q_l100000, q_l1000000, wi, wn, c0]
    simp only [b_201_15, b_201_35, ↓reduceIte, Nat.reduceEqDiff, Nat.reduceMul, q_n10, q_n01, Option.bind_some, g_aft0, g_aft1, g_aft2, g_aft3, g_aft9, Nat.reduceAdd, m_kill_0, m_kill_2, m_kill_3, m_kill_4, m_kill_9, true_or, or_true, q_lm1, q_l0, q_l1, q_l2, q_l3, q_l4, q_l5, q_l6, q_l8, q_l9, q_l10, q_l12, q_l17, q_l32, q_l35, q_l48, q_l50, q_l54, q_l57, q_l64, q_l73, q_l118, q_l119, q_l120, q_l122, q_l126, q_l160, q_l256, q_l365, q_l372, q_l438, q_l1000, q_l100000, q_l1000000, q_modF hL.2.2.2.2.2.2.1, wi, p0, p1, tn, hwt, ww, ha])
  rw [e_201, b_201_0, m_kill_9]
  refine Eq.trans lp ?_
  rw [n0.1] at hm wn
  conv => lhs; simp only [b_201_6, ↓reduceIte, Nat.reduceEqDiff, Nat.reduceMul, q_n10, q_n01, Option.bind_some, g_aft0, g_aft1, g_aft2, g_aft3, g_aft9, Nat.reduceAdd, m_kill_0, m_kill_2, m_kill_3, m_kill_4, m_kill_9, true_or, or_true, q_lm1, q_l0, q_l1, q_l2, q_l3, q_l4, q_l5, q_l6, q_l8, q_l9, q_l10, q_l12, q_l17, q_l32, q_l35, q_l48, q_l50, q_l54, q_l57, q_l64, q_l73, q_l118, q_l119, q_l120, q_l122, q_l126, q_l160, q_l256, q_l365, q_l372, q_l438, q_l1000, q_l100000, q_l1000000, q_modF hL.2.2.2.2.2.2.1, hm]
  simp only [b_201_12, b_201_45, ↓reduceIte, Nat.reduceEqDiff, Nat.reduceMul, q_n10, q_n01, Option.bind_some, g_aft0, g_aft1, g_aft2, g_aft3, g_aft9, Nat.reduceAdd, m_kill_0, m_kill_2, m_kill_3, m_kill_4, m_kill_9, true_or, or_true, q_lm1, q_l0, q_l1, q_l2, q_l3, q_l4, q_l5, q_l6, q_l8, q_l9, q_l10, q_l12, q_l17, q_l32, q_l35, q_l48, q_l50, q_l54, q_l57, q_l64, q_l73, q_l118, q_l119, q_l120, q_l122, q_l126, q_l160, q_l256, q_l365, q_l372, q_l438, q_l1000, q_l100000, q_l1000000, wn, Int.le_refl]
end
end
