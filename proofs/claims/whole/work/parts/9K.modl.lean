section
/-! The model: corners told; what its calls share. -/
def z_fz (σ τ : Nat → Nat → Int) : Prop := (∀ a, a < 191 ∨ a = 192 ∨ a = 193 ∨ a = 195 ∨ 205 ≤ a → τ a = σ a) ∧ ∀ j, (j < 7 ∨ j = 26) → τ 191 j = σ 191 j
theorem z_fz_r {σ : Nat → Nat → Int} : z_fz σ σ := ⟨fun _ _ => rfl, fun _ _ => rfl⟩
theorem z_fz_t {σ τ ρ : Nat → Nat → Int} (h : z_fz σ τ) (h2 : z_fz τ ρ) : z_fz σ ρ := ⟨fun a h3 => (h2.1 a h3).trans (h.1 a h3), fun j h3 => (h2.2 j h3).trans (h.2 j h3)⟩
theorem z_fz_b {σ τ : Nat → Nat → Int} (h : z_fb σ τ) : z_fz σ τ := ⟨fun a ha => h.1 a (by omega) (by omega) (by omega), fun j hj => h.2 j (by omega)⟩
theorem z_fz_9 {σ τ : Nat → Nat → Int} (h : z_f9 σ τ) : z_fz σ τ := z_fz_b (z_fb_9 h)
section
variable {Z : mZ} {K : Nat → mK} {σ τ N M : Nat → Nat → Int} {e g i L n c k s a b : Nat} {t p q v x y z w u S : Int} {X : Nat → Int} {h : mH} {R : Nat → Nat → Nat → Int} {T : Nat → Int}
theorem z_okz (h : z_inv σ N R c X L) {r : Option mO} (hf : z_fz (m_up2 σ 191 4 0) τ) (hr : r = some (.inl (0, v), (K, τ, 206, e, s))) : z_O r K e s σ N R c X L 0 v := by
  refine ⟨_, hr, by rw [hf.2 4 (by omega), m_up2_at], z_invF (z_inv4 (v := 0) h) (hf.1 192 (by omega)) (hf.1 193 (by omega)) (hf.1 195 (by omega)) (hf.2 3 (by omega)) (hf.2 6 (by omega)), fun a ha => ?_⟩
  rw [hf.1 a (by omega), m_up2_ne (by omega)]
theorem z_can (hL : q_lay K) (hn : z_n σ N) : ∃ τ, z_far τ N ∧ (∀ a, a ≠ 196 → τ a = σ a) ∧ (y_cc N → m_cl Z 216 [(2, ((191 : Nat) : Int))] (K, σ, 206, e, s) = some (.inl (0, 1), (K, τ, 206, e, s))) ∧ (¬ y_cc N → ∃ τ', (∀ a, a ≠ 196 → τ' a = σ a) ∧ m_cl Z 216 [(2, ((191 : Nat) : Int))] (K, σ, 206, e, s) = some (.inl (0, 0), (K, τ', 206, e, s))) := by
  have hm := z_emany (Z := Z) (e := e) (s := s) hL hn
  have e0 := wf_e hn.1
  obtain ⟨τ, v, t1, t2, t3, t4, t5⟩ := z_conn (Z := Z) (e := e) (s := s) hL hn
  have wE : w32 (N 0 1) = N 0 1 := q_wi (by omega) (by omega)
  have n10 : ¬ (1 : Int) = 0 := by decide
  refine ⟨τ, t2, t3, fun hy => ?_, fun hy => ?_⟩
  · rw [t4 hy.1] at t1
    have c0 : ¬ N 0 1 ≤ 0 := by have := hy.2; clear wE; omega
    simp only [e_216, b_216_0, b_216_4, b_216_7, b_216_11, b_216_14, b_216_18, b_216_19, ↓reduceIte, Nat.reduceEqDiff, Nat.reduceMul, q_n10, q_n01, Option.bind_some, g_aft0, g_aft1, g_aft2, g_aft3, g_aft9, Nat.reduceAdd, m_kill_0, m_kill_2, m_kill_3, m_kill_4, m_kill_9, true_or, or_true, q_lm1, q_l0, q_l1, q_l2, q_l3, q_l4, q_l5, q_l6, q_l8, q_l9, q_l10, q_l12, q_l17, q_l32, q_l35, q_l48, q_l50, q_l54, q_l57, q_l64, q_l73, q_l118, q_l119, q_l120, q_l122, q_l126, q_l160, q_l256, q_l365, q_l372, q_l438, q_l1000, q_l100000, q_l1000000, q_modF hL.2.2.2.2.2.2.1, hm, wE, c0, t1, n10]
  · by_cases c1 : N 0 1 ≤ 0
    · refine ⟨σ, fun _ _ => rfl, ?_⟩
      simp only [e_216, b_216_0, b_216_4, b_216_7, b_216_11, b_216_14, b_216_18, b_216_19, ↓reduceIte, Nat.reduceEqDiff, Nat.reduceMul, q_n10, q_n01, Option.bind_some, g_aft0, g_aft1, g_aft2, g_aft3, g_aft9, Nat.reduceAdd, m_kill_0, m_kill_2, m_kill_3, m_kill_4, m_kill_9, true_or, or_true, q_lm1, q_l0, q_l1, q_l2, q_l3, q_l4, q_l5, q_l6, q_l8, q_l9, q_l10, q_l12, q_l17, q_l32, q_l35, q_l48, q_l50, q_l54, q_l57, q_l64, q_l73, q_l118, q_l119, q_l120, q_l122, q_l126, q_l160, q_l256, q_l365, q_l372, q_l438, q_l1000, q_l100000, q_l1000000, q_modF hL.2.2.2.2.2.2.1, hm, wE, c1, true_or]
    · have hd : ¬ w_cn N := fun q => hy ⟨q, by clear wE; omega⟩
      rw [t5 hd] at t1
      refine ⟨τ, t3, ?_⟩
      simp only [e_216, b_216_0, b_216_4, b_216_7, b_216_11, b_216_14, b_216_18, b_216_19, ↓reduceIte, Nat.reduceEqDiff, Nat.reduceMul, q_n10, q_n01, Option.bind_some, g_aft0, g_aft1, g_aft2, g_aft3, g_aft9, Nat.reduceAdd, m_kill_0, m_kill_2, m_kill_3, m_kill_4, m_kill_9, true_or, or_true, q_lm1, q_l0, q_l1, q_l2, q_l3, q_l4, q_l5, q_l6, q_l8, q_l9, q_l10, q_l12, q_l17, q_l32, q_l35, q_l48, q_l50, q_l54, q_l57, q_l64, q_l73, q_l118, q_l119, q_l120, q_l122, q_l126, q_l160, q_l256, q_l365, q_l372, q_l438, q_l1000, q_l100000, q_l1000000, q_modF hL.2.2.2.2.2.2.1, hm, wE, c1, t1, true_or]
/-- weights and distances laid behind a check that passed -/
theorem z_prep (hL : q_lay K) (hn : z_n σ N) (hd : w_cn N) (hf : z_far τ N) (h3 : ∀ a, a ≠ 196 → τ a = σ a) : ∃ ω, m_cl Z 199 [(2, ((191 : Nat) : Int)), (0, t)] (K, m_up2 τ 191 4 0, 206, e, s) = some (.inl (9, 0), (K, ω, 206, e, s)) ∧ z_sur ω N t ∧ z_fz (m_up2 σ 191 4 0) ω := by
  have hn4 : z_n (m_up2 τ 191 4 0) N := z_nF hn (by rw [m_up2_ne (by omega), h3 192 (by omega)])
  obtain ⟨ω, o1, o2, o3⟩ := z_weighs (Z := Z) (e := e) (s := s) (t := t) hL hn4
  refine ⟨ω, o1, ⟨z_nF hn4 (o3 192 (by omega)), fun a b ha hb => by rw [o3 196 (by omega), m_up2_ne (by omega)]; exact hf a b ha hb, o2, hd⟩, fun a ha => ?_, fun j hj => ?_⟩
  · rw [o3 a (by omega), m_up2_ne (by omega), m_up2_ne (by omega), h3 a (by omega)]
  · rw [o3 191 (by omega)]
    by_cases c : j = 4
    · subst c; rw [m_up2_at, m_up2_at]
    · rw [m_up2_nk c, m_up2_nk c, h3 191 (by omega)]
/-- from one corner to the next -/
theorem z_step {xs : List (Int × Int)} {kk r : Int} {P Q V : Nat → Int} {n : Nat} (hy : y_kl N t g c P Q V) (hK : ∀ x, (∃ y, y ∈ xs ∧ z_ic N t g y ∧ fr y.1 y.2 = x) ↔ w_K N t g x) (hnx : z_nx N t g xs kk xs.length r) (hkk : (kk = -1 ∧ n = 0) ∨ (0 < n ∧ n - 1 < c ∧ ∃ m : Nat, kk = (m : Int) ∧ z_xf xs m = fr (P (n - 1)) (Q (n - 1)))) : (n < c ∧ ∃ j, j < xs.length ∧ r = (j : Int) ∧ z_xf xs j = fr (P n) (Q n)) ∨ (c ≤ n ∧ r = -1) := by
  obtain ⟨-, y2, y3⟩ := hy
  have hin : ∀ i, i < xs.length → z_ic N t g (xs.getD i (0, 0)) → ∃ i', i' < c ∧ fr (P i') (Q i') = z_xf xs i := fun i hi hc => (y3 _).mpr ((hK _).mp ⟨_, getD_mem hi, hc, rfl⟩)
  have hgt : ∀ i, z_gt xs kk i ↔ ∀ l, l < n → fr (P l) (Q l) < z_xf xs i := by
    intro i
    rcases hkk with ⟨rfl, rfl⟩ | ⟨n0, n1, m, rfl, hm⟩
    · exact ⟨fun _ l hl => absurd hl (by omega), fun _ => Or.inl rfl⟩
    · constructor
      · intro h l hl
        rcases h with h | h
        · omega
        · rw [show ((m : Int)).toNat = m from rfl, hm] at h
          by_cases q : l = n - 1
          · rw [q]; exact h
          · exact r_tr (y2 l (n - 1) (by omega) n1) h
      · intro h
        right
        rw [show ((m : Int)).toNat = m from rfl, hm]
        exact h (n - 1) (by omega)
  by_cases hn : n < c
  · left
    refine ⟨hn, ?_⟩
    obtain ⟨y, z1, z2, z3⟩ := (hK _).mpr ((y3 _).mp ⟨n, hn, rfl⟩)
    obtain ⟨i0, i1, i2⟩ := getD_ex (d := ((0, 0) : Int × Int)) z1
    rw [← i2] at z2 z3
    have z3 : z_xf xs i0 = fr (P n) (Q n) := z3
    have g0 : z_gt xs kk i0 := (hgt i0).mpr (fun l hl => by rw [z3]; exact y2 l n hl hn)
    rcases hnx with ⟨-, h2⟩ | ⟨j, j1, j2, j3, j4, j5⟩
    · exact absurd g0 (h2 i0 i1 z2)
    · refine ⟨j, j1, j2, ?_⟩
      obtain ⟨i', u1, u2⟩ := hin j j1 j3
      have hlow := (hgt j).mp j4
      have hmin := j5 i0 i1 z2 g0
      rw [z3] at hmin
      rcases Nat.lt_trichotomy i' n with q | q | q
      · have := hlow i' q
        rw [u2] at this
        exact absurd this Rat.lt_irrefl
      · rw [← u2, q]
      · have := y2 n i' q u1
        rw [u2] at this
        exact absurd this hmin
  · right
    refine ⟨by omega, ?_⟩
    rcases hnx with ⟨h1, -⟩ | ⟨j, j1, j2, j3, j4, j5⟩
    · exact h1
    · obtain ⟨i', u1, u2⟩ := hin j j1 j3
      have := (hgt j).mp j4 i' (by omega)
      rw [u2] at this
      exact absurd this Rat.lt_irrefl
theorem z_cornerTold {P Q V : Nat → Int} (hL : q_lay K) (h : z_sur σ N t) (ht : 0 ≤ t) (ht2 : t ≤ 10) (hg : g < w_ne N) (hy : y_kl N t g c P Q V) (hz : 0 ≤ z) (hz3 : z ≤ 3) (hyw : w32 y = y) : ∃ τ, m_cl Z 214 [(2, ((191 : Nat) : Int)), (0, (g : Int)), (0, y), (0, z)] (K, σ, 206, e, s) = some (.inl (0, if 0 ≤ y ∧ y < (c : Int) then y_cf P Q V y.toNat z else -1), (K, τ, 206, e, s)) ∧ z_f9 σ τ := by
  have hw := h.1.1
  have hc := h.2.2.2
  have n0 := wf_n hw
  have hall := w_all1 n0.2.2
  have hmn := z_many (Z := Z) (e := e) (s := s) hL h.1
  rw [n0.1] at hmn
  have hK := fun x => z_K (N := N) (t := t) (g := g) (x := x) hw hc hg ht ht2
  have hok := fun y => z_xs_ok (N := N) (t := t) (S := ((2 ^ w_nn N - 1 : Nat) : Int)) (x := y) hw hc hg ht ht2
  have hlen := z_xs_len hw (t := t) (S := ((2 ^ w_nn N - 1 : Nat) : Int)) (g := g)
  obtain ⟨τ, t1, t2, t3⟩ := z_laysX (Z := Z) (S := ((2 ^ w_nn N - 1 : Nat) : Int)) (e := e) (s := s) hL h ht ht2 hg
  have hs := z_sur9 h t3
  have hmn2 := z_many (Z := Z) (e := e) (s := s) hL hs.1
  rw [n0.1] at hmn2
  have yb : y ≤ 2147483647 := by
    have h2 : w32 y < 2147483648 := Int.bmod_lt (by decide)
    rw [hyw] at h2
    clear hyw hall; omega
  obtain ⟨k0, f1, f2⟩ := z_next213 (Z := Z) (e := e) (s := s) (kk := -1) hL hs ht ht2 hg t2 hok hlen (Or.inl rfl)
  have c0 := z_step (n := 0) hy hK f2 (Or.inl ⟨rfl, rfl⟩)
  generalize hxs : z_xs N t ((2 ^ w_nn N - 1 : Nat) : Int) g = xs at *
  have wz : w32 z = z := by clear hyw hall; exact q_wi (by omega) (by omega)
  have wm1 : w32 (-1) = -1 := by decide
  have loop : ∀ (d n : Nat) (k : Int), d + n = c → (n : Int) ≤ y → ((n < c ∧ ∃ j, j < xs.length ∧ k = (j : Int) ∧ z_xf xs j = fr (P n) (Q n)) ∨ (c ≤ n ∧ k = -1)) → ∃ (k' : Int) (l5 : mV), m_run Z (214, 24, [(2, ((191 : Nat) : Int)), (0, (g : Int)), (0, y), (0, z), (0, k), (0, (n : Int))], [], (K, τ, 206, e, s)) = m_run Z (214, 51, [(2, ((191 : Nat) : Int)), (0, (g : Int)), (0, y), (0, z), (0, k'), l5], [], (K, τ, 206, e, s)) ∧ ((y < (c : Int) ∧ ∃ j, j < xs.length ∧ k' = (j : Int) ∧ z_xf xs j = fr (P y.toNat) (Q y.toNat)) ∨ ((c : Int) ≤ y ∧ k' = -1)) := by
    intro d
    induction d with
    | zero =>
      intro n k hd hny hk
      have wn : w32 (n : Int) = (n : Int) := by clear hyw wz wm1 hall; exact q_wB (by omega) (by omega)
      rcases hk with ⟨q, -⟩ | ⟨q, rfl⟩
      · clear hyw wz wm1 wn hall; omega
      · refine ⟨-1, (0, (n : Int)), ?_, Or.inr ⟨by clear hyw wz wm1 wn hall; omega, rfl⟩⟩
        by_cases c1 : y ≤ (n : Int)
        · conv => lhs; simp only [b_214_24, ↓reduceIte, Nat.reduceEqDiff, Nat.reduceMul, q_n10, q_n01, Option.bind_some, g_aft0, g_aft1, g_aft2, g_aft3, g_aft9, Nat.reduceAdd, m_kill_0, m_kill_2, m_kill_3, m_kill_4, m_kill_9, true_or, or_true, q_lm1, q_l0, q_l1, q_l2, q_l3, q_l4, q_l5, q_l6, q_l8, q_l9, q_l10, q_l12, q_l17, q_l32, q_l35, q_l48, q_l50, q_l54, q_l57, q_l64, q_l73, q_l118, q_l119, q_l120, q_l122, q_l126, q_l160, q_l256, q_l365, q_l372, q_l438, q_l1000, q_l100000, q_l1000000, hyw, wn, c1]
        · conv => lhs; simp only [b_214_24, b_214_30, ↓reduceIte, Nat.reduceEqDiff, Nat.reduceMul, q_n10, q_n01, Option.bind_some, g_aft0, g_aft1, g_aft2, g_aft3, g_aft9, Nat.reduceAdd, m_kill_0, m_kill_2, m_kill_3, m_kill_4, m_kill_9, true_or, or_true, q_lm1, q_l0, q_l1, q_l2, q_l3, q_l4, q_l5, q_l6, q_l8, q_l9, q_l10, q_l12, q_l17, q_l32, q_l35, q_l48, q_l50, q_l54, q_l57, q_l64, q_l73, q_l118, q_l119, q_l120, q_l122, q_l126, q_l160, q_l256, q_l365, q_l372, q_l438, q_l1000, q_l100000, q_l1000000, hyw, wn, c1, wm1]
    | succ d ih =>
      intro n k hd hny hk
      have wn : w32 (n : Int) = (n : Int) := by clear hyw wz wm1 hall; exact q_wB (by omega) (by omega)
      rcases hk with ⟨q, j, j1, rfl, j2⟩ | ⟨q, rfl⟩
      · by_cases c1 : y ≤ (n : Int)
        · have ey : y.toNat = n := by clear hyw wz wm1 wn hall; omega
          refine ⟨(j : Int), (0, (n : Int)), ?_, Or.inl ⟨by clear hyw wz wm1 wn hall; omega, j, j1, rfl, by rw [ey]; exact j2⟩⟩
          conv => lhs; simp only [b_214_24, ↓reduceIte, Nat.reduceEqDiff, Nat.reduceMul, q_n10, q_n01, Option.bind_some, g_aft0, g_aft1, g_aft2, g_aft3, g_aft9, Nat.reduceAdd, m_kill_0, m_kill_2, m_kill_3, m_kill_4, m_kill_9, true_or, or_true, q_lm1, q_l0, q_l1, q_l2, q_l3, q_l4, q_l5, q_l6, q_l8, q_l9, q_l10, q_l12, q_l17, q_l32, q_l35, q_l48, q_l50, q_l54, q_l57, q_l64, q_l73, q_l118, q_l119, q_l120, q_l122, q_l126, q_l160, q_l256, q_l365, q_l372, q_l438, q_l1000, q_l100000, q_l1000000, hyw, wn, c1]
        · have wj : w32 (j : Int) = (j : Int) := q_w (by clear hyw wz wm1 wn hall; omega)
          have cj : ¬ (j : Int) = -1 := by clear hyw wz wm1 wn wj hall; omega
          obtain ⟨r, r1, r2⟩ := z_next213 (Z := Z) (e := e) (s := s) (kk := ((j : Nat) : Int)) hL hs ht ht2 hg t2 hok hlen (Or.inr ⟨j, j1, rfl⟩)
          have cn := z_step (n := n + 1) hy hK r2 (Or.inr ⟨by clear hyw wz wm1 wn wj hall; omega, by clear hyw wz wm1 wn wj hall; omega, j, rfl, j2⟩)
          obtain ⟨k', l5, u1, u2⟩ := ih (n + 1) r (by clear hyw wz wm1 wn wj hall; omega) (by clear hyw wz wm1 wn wj hall; omega) cn
          refine ⟨k', l5, ?_, u2⟩
          rw [← u1]
          have en : ((n + 1 : Nat) : Int) = (n : Int) + 1 := rfl
          rw [en]
          conv => lhs; simp only [b_214_24, ↓reduceIte, Nat.reduceEqDiff, Nat.reduceMul, q_n10, q_n01, Option.bind_some, g_aft0, g_aft1, g_aft2, g_aft3, g_aft9, Nat.reduceAdd, m_kill_0, m_kill_2, m_kill_3, m_kill_4, m_kill_9, true_or, or_true, q_lm1, q_l0, q_l1, q_l2, q_l3, q_l4, q_l5, q_l6, q_l8, q_l9, q_l10, q_l12, q_l17, q_l32, q_l35, q_l48, q_l50, q_l54, q_l57, q_l64, q_l73, q_l118, q_l119, q_l120, q_l122, q_l126, q_l160, q_l256, q_l365, q_l372, q_l438, q_l1000, q_l100000, q_l1000000, hyw, wn, c1]
          conv => lhs; simp only [b_214_30, b_214_36, b_214_43, ↓reduceIte, Nat.reduceEqDiff, Nat.reduceMul, q_n10, q_n01, Option.bind_some, g_aft0, g_aft1, g_aft2, g_aft3, g_aft9, Nat.reduceAdd, m_kill_0, m_kill_2, m_kill_3, m_kill_4, m_kill_9, true_or, or_true, q_lm1, q_l0, q_l1, q_l2, q_l3, q_l4, q_l5, q_l6, q_l8, q_l9, q_l10, q_l12, q_l17, q_l32, q_l35, q_l48, q_l50, q_l54, q_l57, q_l64, q_l73, q_l118, q_l119, q_l120, q_l122, q_l126, q_l160, q_l256, q_l365, q_l372, q_l438, q_l1000, q_l100000, q_l1000000, q_modF hL.2.2.2.2.2.2.1, wm1, wj, cj, r1]
      · clear hyw wz wm1 wn hall; omega
  have start : m_cl Z 214 [(2, ((191 : Nat) : Int)), (0, (g : Int)), (0, y), (0, z)] (K, σ, 206, e, s) = m_run Z (214, 24, [(2, ((191 : Nat) : Int)), (0, (g : Int)), (0, y), (0, z), (0, k0), (0, 0)], [], (K, τ, 206, e, s)) := by
    rw [e_214]
    simp only [b_214_0, b_214_6, b_214_13, b_214_19, ↓reduceIte, Nat.reduceEqDiff, Nat.reduceMul, q_n10, q_n01, Option.bind_some, g_aft0, g_aft1, g_aft2, g_aft3, g_aft9, Nat.reduceAdd, m_kill_0, m_kill_2, m_kill_3, m_kill_4, m_kill_9, true_or, or_true, q_lm1, q_l0, q_l1, q_l2, q_l3, q_l4, q_l5, q_l6, q_l8, q_l9, q_l10, q_l12, q_l17, q_l32, q_l35, q_l48, q_l50, q_l54, q_l57, q_l64, q_l73, q_l118, q_l119, q_l120, q_l122, q_l126, q_l160, q_l256, q_l365, q_l372, q_l438, q_l1000, q_l100000, q_l1000000, q_modF hL.2.2.2.2.2.2.1, hmn, hall, t1, f1]
  refine ⟨τ, ?_, t3⟩
  rw [start]
  by_cases y0 : 0 ≤ y
  · obtain ⟨k', l5, u1, u2⟩ := loop c 0 k0 rfl (by clear hyw wz wm1 hall; omega) c0
    have e00 : ((0 : Nat) : Int) = 0 := rfl
    rw [e00] at u1
    rw [u1]
    rcases u2 with ⟨q, j, j1, rfl, j2⟩ | ⟨q, rfl⟩
    · rw [if_pos ⟨y0, q⟩]
      have wj : w32 (j : Int) = (j : Int) := q_w (by clear hyw wz wm1 hall; omega)
      have cj : ¬ (j : Int) = -1 := by clear hyw wz wm1 wj hall; omega
      have p0 : 0 ≤ (j : Int) := by clear hyw wz wm1 wj hall; omega
      have p1 : (j : Int) < ((160 : Nat) : Int) := by clear hyw wz wm1 wj hall; omega
      have tn : ((j : Int)).toNat = j := rfl
      obtain ⟨a1, a2⟩ := t2.2 j j1
      have hpj := hok _ (getD_mem (d := ((0, 0) : Int × Int)) j1)
      have hb := z_pqb hw hg hpj
      have hyb := y_klb hw hc hg hy (i := y.toNat) (by clear hyw wz wm1 wj hall; omega)
      have htop := (hy.1 y.toNat (by clear hyw wz wm1 wj hall; omega)).2
      have hT := w_H_top hw hc hg hpj
      have hH := z_height (Z := Z) (e := e) (s := s) (S := ((2 ^ w_nn N - 1 : Nat) : Int)) hL hs ht ht2 hg hpj
      have hHb := w_Hb hw hc hg hpj (S := ((2 ^ w_nn N - 1 : Nat) : Int)) (w_nn N) (Nat.le_refl _)
      have hq1 := hpj.1
      have j2 : fr (xs.getD j (0, 0)).1 (xs.getD j (0, 0)).2 = fr (P y.toNat) (Q y.toNat) := j2
      generalize xs.getD j (0, 0) = A at *
      generalize w_H N t ((2 ^ w_nn N - 1 : Nat) : Int) g A.1 A.2 (w_nn N) = H at *
      unfold y_cf
      by_cases c2 : z < 2
      · rw [if_pos c2]
        have c2' : ¬ 2 ≤ z := by clear hyw wz wm1 wj hall; omega
        have hr := z_red (Z := Z) (h := (K, τ, 206, e, s)) (x := A.1) (y := A.2) (u := z) hb.1 (by clear hyw wz wm1 wj hall; omega) hq1 (by clear hyw wz wm1 wj hall; omega) wz
        have ez : z.tmod 2 = z := by
          rcases (show z = 0 ∨ z = 1 by clear hyw wz wm1 wj hall; omega) with d | d <;> rw [d] <;> rfl
        rw [ez, ← w_redU (part := z) hb.1 (by clear hyw wz wm1 wj hall; omega) hyb.2.1.1 (by clear hyw wz wm1 wj hall; omega) j2]
        simp only [b_214_51, b_214_57, b_214_63, b_214_68, b_214_86, ↓reduceIte, Nat.reduceEqDiff, Nat.reduceMul, q_n10, q_n01, Option.bind_some, g_aft0, g_aft1, g_aft2, g_aft3, g_aft9, Nat.reduceAdd, m_kill_0, m_kill_2, m_kill_3, m_kill_4, m_kill_9, true_or, or_true, q_lm1, q_l0, q_l1, q_l2, q_l3, q_l4, q_l5, q_l6, q_l8, q_l9, q_l10, q_l12, q_l17, q_l32, q_l35, q_l48, q_l50, q_l54, q_l57, q_l64, q_l73, q_l118, q_l119, q_l120, q_l122, q_l126, q_l160, q_l256, q_l365, q_l372, q_l438, q_l1000, q_l100000, q_l1000000, q_modF hL.2.2.2.2.2.2.1, wm1, wj, cj, hyw, y0, wz, c2', p0, p1, tn, a1, a2, hr]
      · rw [if_neg c2]
        have c2' : 2 ≤ z := by clear hyw wz wm1 wj hall; omega
        have wz2 : w32 (z - 2) = z - 2 := by clear hyw wz wm1 wj hall; exact q_wi (by omega) (by omega)
        have hr := z_red (Z := Z) (h := (K, τ, 206, e, s)) (x := H) (y := A.2) (u := z - 2) hHb.1 (by clear hyw wz wm1 wj hall wz2; omega) hq1 (by clear hyw wz wm1 wj hall wz2; omega) wz2
        have ez : z.tmod 2 = z - 2 := by
          rcases (show z = 2 ∨ z = 3 by clear hyw wz wm1 wj hall wz2; omega) with d | d <;> rw [d] <;> rfl
        have hv := w_topU (by clear hyw wz wm1 wj hall wz2; omega) (by clear hyw wz wm1 wj hall wz2; omega) hT htop j2
        rw [ez, ← w_redU (part := z - 2) hHb.1 (by clear hyw wz wm1 wj hall wz2; omega) hyb.2.2.1 (by clear hyw wz wm1 wj hall wz2; omega) hv]
        simp only [b_214_51, b_214_57, b_214_63, b_214_89, b_214_95, b_214_116, b_214_129, ↓reduceIte, Nat.reduceEqDiff, Nat.reduceMul, q_n10, q_n01, Option.bind_some, g_aft0, g_aft1, g_aft2, g_aft3, g_aft9, Nat.reduceAdd, m_kill_0, m_kill_2, m_kill_3, m_kill_4, m_kill_9, true_or, or_true, q_lm1, q_l0, q_l1, q_l2, q_l3, q_l4, q_l5, q_l6, q_l8, q_l9, q_l10, q_l12, q_l17, q_l32, q_l35, q_l48, q_l50, q_l54, q_l57, q_l64, q_l73, q_l118, q_l119, q_l120, q_l122, q_l126, q_l160, q_l256, q_l365, q_l372, q_l438, q_l1000, q_l100000, q_l1000000, q_modF hL.2.2.2.2.2.2.1, wm1, wj, cj, hyw, y0, wz, c2', hmn2, hall, p0, p1, tn, a1, a2, hH, hr]
    · rw [if_neg (by clear hyw wz wm1 hall; omega)]
      simp only [b_214_51, b_214_61, ↓reduceIte, Nat.reduceEqDiff, Nat.reduceMul, q_n10, q_n01, Option.bind_some, g_aft0, g_aft1, g_aft2, g_aft3, g_aft9, Nat.reduceAdd, m_kill_0, m_kill_2, m_kill_3, m_kill_4, m_kill_9, true_or, or_true, q_lm1, q_l0, q_l1, q_l2, q_l3, q_l4, q_l5, q_l6, q_l8, q_l9, q_l10, q_l12, q_l17, q_l32, q_l35, q_l48, q_l50, q_l54, q_l57, q_l64, q_l73, q_l118, q_l119, q_l120, q_l122, q_l126, q_l160, q_l256, q_l365, q_l372, q_l438, q_l1000, q_l100000, q_l1000000, wm1]
  · rw [if_neg (by clear hyw wz wm1 hall; omega)]
    have c1 : y ≤ 0 := by clear hyw wz wm1 hall; omega
    by_cases c2 : w32 k0 = -1
    · simp only [b_214_24, b_214_51, b_214_61, ↓reduceIte, Nat.reduceEqDiff, Nat.reduceMul, q_n10, q_n01, Option.bind_some, g_aft0, g_aft1, g_aft2, g_aft3, g_aft9, Nat.reduceAdd, m_kill_0, m_kill_2, m_kill_3, m_kill_4, m_kill_9, true_or, or_true, q_lm1, q_l0, q_l1, q_l2, q_l3, q_l4, q_l5, q_l6, q_l8, q_l9, q_l10, q_l12, q_l17, q_l32, q_l35, q_l48, q_l50, q_l54, q_l57, q_l64, q_l73, q_l118, q_l119, q_l120, q_l122, q_l126, q_l160, q_l256, q_l365, q_l372, q_l438, q_l1000, q_l100000, q_l1000000, hyw, c1, wm1, c2]
    · simp only [b_214_24, b_214_51, b_214_57, b_214_61, ↓reduceIte, Nat.reduceEqDiff, Nat.reduceMul, q_n10, q_n01, Option.bind_some, g_aft0, g_aft1, g_aft2, g_aft3, g_aft9, Nat.reduceAdd, m_kill_0, m_kill_2, m_kill_3, m_kill_4, m_kill_9, true_or, or_true, q_lm1, q_l0, q_l1, q_l2, q_l3, q_l4, q_l5, q_l6, q_l8, q_l9, q_l10, q_l12, q_l17, q_l32, q_l35, q_l48, q_l50, q_l54, q_l57, q_l64, q_l73, q_l118, q_l119, q_l120, q_l122, q_l126, q_l160, q_l256, q_l365, q_l372, q_l438, q_l1000, q_l100000, q_l1000000, hyw, c1, wm1, c2, y0]
theorem z_corner (hL : q_lay K) (h : z_inv σ N R c X L) (hx : w32 x = x) (hy : w32 y = y) (hz : w32 z = z) :
    (¬ (0 ≤ x ∧ x < N 0 1) → z_O (m_cl Z 215 [(2, ((191 : Nat) : Int)), (0, x), (0, y), (0, z)] (K, σ, 206, e, s)) K e s σ N R c X L 1 0) ∧
    ((0 ≤ x ∧ x < N 0 1) → ¬ (0 ≤ z ∧ z ≤ 3) → z_O (m_cl Z 215 [(2, ((191 : Nat) : Int)), (0, x), (0, y), (0, z)] (K, σ, 206, e, s)) K e s σ N R c X L 2 0) ∧
    ((0 ≤ x ∧ x < N 0 1) → (0 ≤ z ∧ z ≤ 3) → (¬ w_cn N → z_O (m_cl Z 215 [(2, ((191 : Nat) : Int)), (0, x), (0, y), (0, z)] (K, σ, 206, e, s)) K e s σ N R c X L 3 0) ∧ (w_cn N → ∀ c' P Q V, y_kl N 0 x.toNat c' P Q V → z_O (m_cl Z 215 [(2, ((191 : Nat) : Int)), (0, x), (0, y), (0, z)] (K, σ, 206, e, s)) K e s σ N R c X L 0 (if 0 ≤ y ∧ y < ((c' : Nat) : Int) then y_cf P Q V y.toNat z else -1))) := by
  have h1 := z_isEdge (Z := Z) (e := e) (s := s) hL h.1 hx
  have h2 := z_within2 (Z := Z) (h := (K, σ, 206, e, s)) (x := z) (y := 0) (z := 3) hz (by decide) (by decide)
  have hne := wf_e h.1.1
  have n10 : ¬ (1 : Int) = 0 := by decide
  refine ⟨fun hn => ?_, fun hn hm => ?_, fun hn hm => ?_⟩
  · rw [if_neg hn] at h1
    refine z_no h ?_
    simp only [e_215, b_215_0, b_215_6, b_215_9, b_215_13, b_215_19, b_215_22, b_215_26, b_215_30, b_215_33, b_215_37, b_215_38, b_215_41, b_215_44, b_215_46, b_215_51, b_215_58, ↓reduceIte, Nat.reduceEqDiff, Nat.reduceMul, q_n10, q_n01, Option.bind_some, g_aft0, g_aft1, g_aft2, g_aft3, g_aft9, Nat.reduceAdd, m_kill_0, m_kill_2, m_kill_3, m_kill_4, m_kill_9, true_or, or_true, q_lm1, q_l0, q_l1, q_l2, q_l3, q_l4, q_l5, q_l6, q_l8, q_l9, q_l10, q_l12, q_l17, q_l32, q_l35, q_l48, q_l50, q_l54, q_l57, q_l64, q_l73, q_l118, q_l119, q_l120, q_l122, q_l126, q_l160, q_l256, q_l365, q_l372, q_l438, q_l1000, q_l100000, q_l1000000, q_modF hL.2.2.2.2.2.2.1, h1, z_ref1 hL (x := 1) (by decide) (by decide)]
  · rw [if_pos hn] at h1
    rw [if_neg hm] at h2
    refine z_no h ?_
    simp only [e_215, b_215_0, b_215_6, b_215_9, b_215_13, b_215_19, b_215_22, b_215_26, b_215_30, b_215_33, b_215_37, b_215_38, b_215_41, b_215_44, b_215_46, b_215_51, b_215_58, ↓reduceIte, Nat.reduceEqDiff, Nat.reduceMul, q_n10, q_n01, Option.bind_some, g_aft0, g_aft1, g_aft2, g_aft3, g_aft9, Nat.reduceAdd, m_kill_0, m_kill_2, m_kill_3, m_kill_4, m_kill_9, true_or, or_true, q_lm1, q_l0, q_l1, q_l2, q_l3, q_l4, q_l5, q_l6, q_l8, q_l9, q_l10, q_l12, q_l17, q_l32, q_l35, q_l48, q_l50, q_l54, q_l57, q_l64, q_l73, q_l118, q_l119, q_l120, q_l122, q_l126, q_l160, q_l256, q_l365, q_l372, q_l438, q_l1000, q_l100000, q_l1000000, q_modF hL.2.2.2.2.2.2.1, h1, h2, n10, z_ref1 hL (x := 2) (by decide) (by decide)]
  · rw [if_pos hn] at h1
    rw [if_pos hm] at h2
    have ex : ((x.toNat : Nat) : Int) = x := by clear hx hy hz h1 h2; omega
    have hg : x.toNat < w_ne N := by clear hx hy hz h1 h2; omega
    obtain ⟨τ, v, t1, t2, t3, t4, t5⟩ := z_conn (Z := Z) (e := e) (s := s) hL h.1
    constructor
    · intro hd
      rw [t5 hd] at t1
      refine z_no6 (τ := τ) h t3 ?_
      simp only [e_215, b_215_0, b_215_6, b_215_9, b_215_13, b_215_19, b_215_22, b_215_26, b_215_30, b_215_33, b_215_37, b_215_38, b_215_41, b_215_44, b_215_46, b_215_51, b_215_58, ↓reduceIte, Nat.reduceEqDiff, Nat.reduceMul, q_n10, q_n01, Option.bind_some, g_aft0, g_aft1, g_aft2, g_aft3, g_aft9, Nat.reduceAdd, m_kill_0, m_kill_2, m_kill_3, m_kill_4, m_kill_9, true_or, or_true, q_lm1, q_l0, q_l1, q_l2, q_l3, q_l4, q_l5, q_l6, q_l8, q_l9, q_l10, q_l12, q_l17, q_l32, q_l35, q_l48, q_l50, q_l54, q_l57, q_l64, q_l73, q_l118, q_l119, q_l120, q_l122, q_l126, q_l160, q_l256, q_l365, q_l372, q_l438, q_l1000, q_l100000, q_l1000000, q_modF hL.2.2.2.2.2.2.1, h1, h2, n10, t1, z_ref1 hL (x := 3) (by decide) (by decide)]
    · intro hd c' P Q V hkl
      rw [t4 hd] at t1
      obtain ⟨ω, o1, o2, o3⟩ := z_prep (Z := Z) (e := e) (s := s) (t := 0) hL h.1 hd t2 t3
      obtain ⟨ρ, r1, r2⟩ := z_cornerTold (Z := Z) (e := e) (s := s) (y := y) hL o2 (Int.le_refl 0) (by decide) hg hkl hm.1 hm.2 hy
      rw [ex] at r1
      refine z_okz (τ := ρ) h (z_fz_t o3 (z_fz_9 r2)) ?_
      simp only [e_215, b_215_0, b_215_6, b_215_9, b_215_13, b_215_19, b_215_22, b_215_26, b_215_30, b_215_33, b_215_37, b_215_38, b_215_41, b_215_44, b_215_46, b_215_51, b_215_58, ↓reduceIte, Nat.reduceEqDiff, Nat.reduceMul, q_n10, q_n01, Option.bind_some, g_aft0, g_aft1, g_aft2, g_aft3, g_aft9, Nat.reduceAdd, m_kill_0, m_kill_2, m_kill_3, m_kill_4, m_kill_9, true_or, or_true, q_lm1, q_l0, q_l1, q_l2, q_l3, q_l4, q_l5, q_l6, q_l8, q_l9, q_l10, q_l12, q_l17, q_l32, q_l35, q_l48, q_l50, q_l54, q_l57, q_l64, q_l73, q_l118, q_l119, q_l120, q_l122, q_l126, q_l160, q_l256, q_l365, q_l372, q_l438, q_l1000, q_l100000, q_l1000000, q_modF hL.2.2.2.2.2.2.1, h1, h2, n10, t1, z_ref0 hL, o1, r1]
end
end
