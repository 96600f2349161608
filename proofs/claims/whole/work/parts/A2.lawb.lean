section
/-! The law: class and model answer alike, call by call. -/
/-- a wrapped call of the class and the model's call behind it -/
def l_PB (B : Int → Prop) (W : Option mO) (M : mH → Option mO) (K : Nat → mK) (e s k : Nat) : Prop := ∃ τ N' R' c' X' L' κ b e' s', W = some (.inl (0, κ), (K, τ, 206, e', s')) ∧ e' ≤ e + 1 ∧ s' ≤ s + 6 ∧ w_ic τ N' R' c' X' L' (k + 1) ∧ z_O (M (K, τ, 206, e', s')) K e' s' τ N' R' c' X' L' κ b ∧ (κ = 0 → τ 205 0 = w32 b) ∧ (κ = 0 ∨ κ = 1 ∨ κ = 2 ∨ κ = 3) ∧ B b
def l_P (W : Option mO) (M : mH → Option mO) (K : Nat → mK) (e s k : Nat) : Prop := l_PB (fun _ => True) W M K e s k
/-- a call of the class that never throws and the model's -/
def l_D (W : Option mO) (M : mH → Option mO) (K : Nat → mK) (e s k : Nat) : Prop := ∃ τ N' R' c' X' L' b, W = some (.inl (0, b), (K, τ, 206, e, s)) ∧ w_ic τ N' R' c' X' L' (k + 1) ∧ z_O (M (K, τ, 206, e, s)) K e s τ N' R' c' X' L' 0 b
section
variable {Z : mZ} {K : Nat → mK} {σ τ N N' : Nat → Nat → Int} {R R' : Nat → Nat → Nat → Int} {e s k c c' L L' : Nat} {X X' : Nat → Int} {x y z p q u v κ : Int} {W : Option mO} {M : mH → Option mO}
theorem w_icF (h : w_ic σ N R c X L k) (hf : ∀ a, a < 191 → τ a = σ a) : w_ic τ N R c X L k := w_icT h (fun a ha => hf a (by omega)) (w_tx_fr h.2.2.1 (by rw [hf 186 (by omega)]) (hf 188 (by omega)))
theorem w_icK (h : w_ic σ N R c X L k) : w_ic σ N R c X L (k + 1) := ⟨h.1, h.2.1, h.2.2.1, h.2.2.2.1, by have := h.2.2.2.2.1; omega, h.2.2.2.2.2⟩
theorem z_invG (h : z_inv σ N R c X L) (hf : ∀ a, 191 ≤ a → a ≠ 205 → τ a = σ a) : z_inv τ N R c X L := z_invF h (hf 192 (by omega) (by omega)) (hf 193 (by omega) (by omega)) (hf 195 (by omega) (by omega)) (by rw [hf 191 (by omega) (by omega)]) (by rw [hf 191 (by omega) (by omega)])
theorem l_okB {B : Int → Prop} (hW : W = some (.inl (0, 0), (K, m_up2 τ 205 0 (w32 v), 206, e, s))) (hB : B v) (hi : w_ic τ N' R' c' X' L' (k + 1)) (hf : ∀ a, 191 ≤ a → τ a = σ a) (hz : z_inv σ N R c X L) (hM : ∀ σ, z_inv σ N R c X L → z_O (M (K, σ, 206, e, s)) K e s σ N' R' c' X' L' 0 v) : l_PB B W M K e s k :=
  ⟨_, N', R', c', X', L', 0, v, e, s, hW, by omega, by omega, w_icF hi (fun a ha => m_up2_ne (by omega)), hM _ (z_invG hz (fun a h1 h2 => (m_up2_ne h2).trans (hf a h1))), fun _ => m_up2_at, Or.inl rfl, hB⟩
theorem l_thB {B : Int → Prop} (hW : W = some (.inl (0, κ), (K, τ, 206, e + 1, s + 6))) (hB : B 0) (hκ : κ = 1 ∨ κ = 2 ∨ κ = 3) (hi : w_ic τ N R c X L (k + 1)) (hf : ∀ a, 191 ≤ a → τ a = σ a) (hz : z_inv σ N R c X L) (hM : ∀ σ e s, z_inv σ N R c X L → z_O (M (K, σ, 206, e, s)) K e s σ N R c X L κ 0) : l_PB B W M K e s k :=
  ⟨_, N, R, c, X, L, κ, 0, e + 1, s + 6, hW, by omega, by omega, hi, hM _ _ _ (z_invG hz (fun a h1 _ => hf a h1)), fun q => by omega, Or.inr hκ, hB⟩
theorem l_ok (hW : W = some (.inl (0, 0), (K, m_up2 τ 205 0 (w32 v), 206, e, s))) (hi : w_ic τ N' R' c' X' L' (k + 1)) (hf : ∀ a, 191 ≤ a → τ a = σ a) (hz : z_inv σ N R c X L) (hM : ∀ σ, z_inv σ N R c X L → z_O (M (K, σ, 206, e, s)) K e s σ N' R' c' X' L' 0 v) : l_P W M K e s k := l_okB hW trivial hi hf hz hM
theorem l_th (hW : W = some (.inl (0, κ), (K, τ, 206, e + 1, s + 6))) (hκ : κ = 1 ∨ κ = 2 ∨ κ = 3) (hi : w_ic τ N R c X L (k + 1)) (hf : ∀ a, 191 ≤ a → τ a = σ a) (hz : z_inv σ N R c X L) (hM : ∀ σ e s, z_inv σ N R c X L → z_O (M (K, σ, 206, e, s)) K e s σ N R c X L κ 0) : l_P W M K e s k := l_thB hW trivial hκ hi hf hz hM
theorem l_k1 : (1 : Int) = 1 ∨ (1 : Int) = 2 ∨ (1 : Int) = 3 := by decide
theorem l_k2 : (2 : Int) = 1 ∨ (2 : Int) = 2 ∨ (2 : Int) = 3 := by decide
theorem l_k3 : (3 : Int) = 1 ∨ (3 : Int) = 2 ∨ (3 : Int) = 3 := by decide
theorem y_sv_n3 : y_sv N x y ≠ 3 := by
  unfold y_sv
  split
  · decide
  · split <;> decide
theorem l_reset (hL : q_lay K) (hO : q_lo K) (hi : w_ic σ N R c X L k) (hz : z_inv σ N R c X L) (hx : w32 x = x) : l_P (m_cl Z 251 [(2, ((0 : Nat) : Int)), (0, x), (2, ((205 : Nat) : Int))] (K, σ, 206, e, s)) (fun h => m_cl Z 163 [(2, ((191 : Nat) : Int)), (0, x)] h) K e s k := by
  by_cases c1 : 1 ≤ x ∧ x ≤ 8
  · obtain ⟨τ, t1, t2, t3⟩ := (x_reset (Z := Z) (e := e) (s := s) hL hi hx).2 c1
    exact l_ok (l_w251 hL hO t1) (w_icK t2) t3 hz (fun σ h => (z_reset hL h hx).2 c1)
  · exact l_th (l_x251_1 hL ((x_reset hL hi hx).1 c1)) l_k1 (w_icK hi) (fun _ _ => rfl) hz (fun σ e s h => (z_reset hL h hx).1 c1)
theorem l_connect (hL : q_lay K) (hO : q_lo K) (hi : w_ic σ N R c X L k) (hz : z_inv σ N R c X L) (hx : w32 x = x) (hy : w32 y = y) (hw : w32 z = z) : l_P (m_cl Z 252 [(2, ((0 : Nat) : Int)), (0, x), (0, y), (0, z), (2, ((205 : Nat) : Int))] (K, σ, 206, e, s)) (fun h => m_cl Z 167 [(2, ((191 : Nat) : Int)), (0, x), (0, y), (0, z)] h) K e s k := by
  obtain ⟨a1, a2⟩ := x_connect (Z := Z) (e := e) (s := s) hL hi hx hy hw
  have b := fun σ e s h => z_connect (Z := Z) (K := K) (σ := σ) (N := N) (R := R) (c := c) (X := X) (L := L) (e := e) (s := s) hL h hx hy hw
  rcases y_cn_r (N := N) (a := x) (b := y) (l := z) with h0 | h0 | h0 | h0
  · obtain ⟨τ, t1, t2, t3⟩ := a2 h0
    exact l_ok (l_w252 hL hO t1) (w_icK t2) t3 hz (fun σ h => (b σ _ _ h).2 h0)
  · rw [h0] at a1 b
    exact l_th (l_x252_0 hL (a1 (by decide))) l_k1 (w_icK hi) (fun _ _ => rfl) hz (fun σ e s h => (b σ e s h).1 (by decide))
  · rw [h0] at a1 b
    exact l_th (l_x252_1 hL (a1 (by decide))) l_k2 (w_icK hi) (fun _ _ => rfl) hz (fun σ e s h => (b σ e s h).1 (by decide))
  · rw [h0] at a1 b
    exact l_th (l_x252_2 hL (a1 (by decide))) l_k3 (w_icK hi) (fun _ _ => rfl) hz (fun σ e s h => (b σ e s h).1 (by decide))
theorem l_disconnect (hL : q_lay K) (hO : q_lo K) (hi : w_ic σ N R c X L k) (hz : z_inv σ N R c X L) (hx : w32 x = x) : l_P (m_cl Z 253 [(2, ((0 : Nat) : Int)), (0, x), (2, ((205 : Nat) : Int))] (K, σ, 206, e, s)) (fun h => m_cl Z 170 [(2, ((191 : Nat) : Int)), (0, x)] h) K e s k := by
  by_cases c1 : 0 ≤ x ∧ x < N 0 1
  · obtain ⟨τ, t1, t2, t3⟩ := (x_disconnect (Z := Z) (e := e) (s := s) hL hi hx).2 c1
    exact l_ok (l_w253 hL hO t1) (w_icK t2) t3 hz (fun σ h => (z_disconnect hL h hx).2 c1)
  · exact l_th (l_x253_0 hL ((x_disconnect hL hi hx).1 c1)) l_k1 (w_icK hi) (fun _ _ => rfl) hz (fun σ e s h => (z_disconnect hL h hx).1 c1)
theorem l_setWeight (hL : q_lay K) (hO : q_lo K) (hi : w_ic σ N R c X L k) (hz : z_inv σ N R c X L) (hx : w32 x = x) (hy : w32 y = y) : l_P (m_cl Z 254 [(2, ((0 : Nat) : Int)), (0, x), (0, y), (2, ((205 : Nat) : Int))] (K, σ, 206, e, s)) (fun h => m_cl Z 172 [(2, ((191 : Nat) : Int)), (0, x), (0, y)] h) K e s k := by
  obtain ⟨a1, a2⟩ := x_setWeight (Z := Z) (e := e) (s := s) hL hi hx hy
  have b := fun σ e s h => z_setW (Z := Z) (K := K) (σ := σ) (N := N) (R := R) (c := c) (X := X) (L := L) (e := e) (s := s) hL h hx hy
  rcases y_sv_r (N := N) (a := x) (b := y) with h0 | h0 | h0 | h0
  · obtain ⟨τ, t1, t2, t3⟩ := a2 h0
    exact l_ok (l_w254 hL hO t1) (w_icK t2) t3 hz (fun σ h => (b σ _ _ h).2 h0)
  · rw [h0] at a1 b
    exact l_th (l_x254_0 hL (a1 (by decide))) l_k1 (w_icK hi) (fun _ _ => rfl) hz (fun σ e s h => (b σ e s h).1 (by decide))
  · rw [h0] at a1 b
    exact l_th (l_x254_1 hL (a1 (by decide))) l_k2 (w_icK hi) (fun _ _ => rfl) hz (fun σ e s h => (b σ e s h).1 (by decide))
  · exact absurd h0 y_sv_n3
theorem l_setTrend (hL : q_lay K) (hO : q_lo K) (hi : w_ic σ N R c X L k) (hz : z_inv σ N R c X L) (hx : w32 x = x) (hy : w32 y = y) : l_P (m_cl Z 255 [(2, ((0 : Nat) : Int)), (0, x), (0, y), (2, ((205 : Nat) : Int))] (K, σ, 206, e, s)) (fun h => m_cl Z 173 [(2, ((191 : Nat) : Int)), (0, x), (0, y)] h) K e s k := by
  obtain ⟨a1, a2⟩ := x_setTrend (Z := Z) (e := e) (s := s) hL hi hx hy
  have b := fun σ e s h => z_setT (Z := Z) (K := K) (σ := σ) (N := N) (R := R) (c := c) (X := X) (L := L) (e := e) (s := s) hL h hx hy
  rcases y_sv_r (N := N) (a := x) (b := y) with h0 | h0 | h0 | h0
  · obtain ⟨τ, t1, t2, t3⟩ := a2 h0
    exact l_ok (l_w255 hL hO t1) (w_icK t2) t3 hz (fun σ h => (b σ _ _ h).2 h0)
  · rw [h0] at a1 b
    exact l_th (l_x255_0 hL (a1 (by decide))) l_k1 (w_icK hi) (fun _ _ => rfl) hz (fun σ e s h => (b σ e s h).1 (by decide))
  · rw [h0] at a1 b
    exact l_th (l_x255_1 hL (a1 (by decide))) l_k2 (w_icK hi) (fun _ _ => rfl) hz (fun σ e s h => (b σ e s h).1 (by decide))
  · exact absurd h0 y_sv_n3
theorem l_forbid (hL : q_lay K) (hO : q_lo K) (hi : w_ic σ N R c X L k) (hz : z_inv σ N R c X L) (hx : w32 x = x) (hy : w32 y = y) (hw : w32 z = z) : l_P (m_cl Z 256 [(2, ((0 : Nat) : Int)), (0, x), (0, y), (0, z), (2, ((205 : Nat) : Int))] (K, σ, 206, e, s)) (fun h => m_cl Z 176 [(2, ((191 : Nat) : Int)), (0, x), (0, y), (0, z)] h) K e s k := by
  obtain ⟨a1, a2⟩ := x_forbid (Z := Z) (e := e) (s := s) hL hi hx hy hw
  have b := fun σ e s h => z_forbid (Z := Z) (K := K) (σ := σ) (N := N) (R := R) (c := c) (X := X) (L := L) (e := e) (s := s) hL h hx hy hw
  rcases y_fb_r (N := N) (a := x) (b := y) (l := z) with h0 | h0 | h0 | h0
  · obtain ⟨τ, t1, t2, t3⟩ := a2 h0
    exact l_ok (l_w256 hL hO t1) (w_icK t2) t3 hz (fun σ h => (b σ _ _ h).2 h0)
  · rw [h0] at a1 b
    exact l_th (l_x256_0 hL (a1 (by decide))) l_k1 (w_icK hi) (fun _ _ => rfl) hz (fun σ e s h => (b σ e s h).1 (by decide))
  · rw [h0] at a1 b
    exact l_th (l_x256_1 hL (a1 (by decide))) l_k2 (w_icK hi) (fun _ _ => rfl) hz (fun σ e s h => (b σ e s h).1 (by decide))
  · rw [h0] at a1 b
    exact l_th (l_x256_2 hL (a1 (by decide))) l_k3 (w_icK hi) (fun _ _ => rfl) hz (fun σ e s h => (b σ e s h).1 (by decide))
theorem l_allow (hL : q_lay K) (hO : q_lo K) (hi : w_ic σ N R c X L k) (hz : z_inv σ N R c X L) (hx : w32 x = x) : l_P (m_cl Z 257 [(2, ((0 : Nat) : Int)), (0, x), (2, ((205 : Nat) : Int))] (K, σ, 206, e, s)) (fun h => m_cl Z 177 [(2, ((191 : Nat) : Int)), (0, x)] h) K e s k := by
  by_cases c1 : 0 ≤ x ∧ x < N 0 2
  · obtain ⟨τ, t1, t2, t3⟩ := (x_allow (Z := Z) (e := e) (s := s) hL hi hx).2 c1
    exact l_ok (l_w257 hL hO t1) (w_icK t2) t3 hz (fun σ h => (z_allow hL h hx).2 c1)
  · exact l_th (l_x257_0 hL ((x_allow hL hi hx).1 c1)) l_k1 (w_icK hi) (fun _ _ => rfl) hz (fun σ e s h => (z_allow hL h hx).1 c1)
theorem l_count (hL : q_lay K) (hO : q_lo K) (hi : w_ic σ N R c X L k) (hz : z_inv σ N R c X L) (hk : k < 999999) (hx : w32 x = x) : l_P (m_cl Z 258 [(2, ((0 : Nat) : Int)), (0, x), (2, ((205 : Nat) : Int))] (K, σ, 206, e, s)) (fun h => m_cl Z 179 [(2, ((191 : Nat) : Int)), (0, x)] h) K e s k := by
  by_cases c1 : 0 ≤ x ∧ x ≤ 3
  · obtain ⟨v, τ, t1, t2, t3, t4, t5, t6, t7⟩ := (x_count (Z := Z) (e := e) (s := s) hL hi hk hx).2 c1
    refine l_ok (l_w258 hL hO t1) t2 t3 hz (fun σ h => ?_)
    obtain ⟨v', u1, u2, u3⟩ := (z_count (Z := Z) (e := e) (s := s) hL h hx).2 c1
    have e : v' = v := by
      rcases (show x = 0 ∨ x = 1 ∨ x = 2 ∨ x = 3 by clear hx; omega) with rfl | rfl | rfl | rfl
      · rw [t4 rfl]
        by_cases c2 : w_cn N
        · exact u2 c2
        · exact u3 c2
      · rw [t5 rfl]
        by_cases c2 : w_cn N
        · exact u2 c2
        · exact u3 c2
      · rw [t6 rfl]
        by_cases c2 : w_cn N
        · exact u2 c2
        · exact u3 c2
      · by_cases c2 : w_cn N
        · rw [(t7 rfl).1 c2]; exact u2 c2
        · rw [(t7 rfl).2 c2]; exact u3 c2
    rw [← e]
    exact u1
  · exact l_th (l_x258_1 hL ((x_count hL hi hk hx).1 c1)) l_k1 (w_icK hi) (fun _ _ => rfl) hz (fun σ e s h => (z_count hL h hx).1 c1)
theorem l_edge (hL : q_lay K) (hO : q_lo K) (hi : w_ic σ N R c X L k) (hz : z_inv σ N R c X L) (hx : w32 x = x) (hy : w32 y = y) : l_P (m_cl Z 259 [(2, ((0 : Nat) : Int)), (0, x), (0, y), (2, ((205 : Nat) : Int))] (K, σ, 206, e, s)) (fun h => m_cl Z 180 [(2, ((191 : Nat) : Int)), (0, x), (0, y)] h) K e s k := by
  obtain ⟨a1, a2, a3⟩ := x_edge (Z := Z) (e := e) (s := s) hL hi hx hy
  by_cases c1 : 0 ≤ x ∧ x < N 0 1
  · by_cases c2 : 0 ≤ y ∧ y ≤ 2
    · exact l_ok (l_w259 hL hO (a3 c1 c2)) (w_icK hi) (fun _ _ => rfl) hz (fun σ h => (z_edge hL h hx hy).2.2 c1 c2)
    · exact l_th (l_x259_1 hL (a2 c1 c2)) l_k2 (w_icK hi) (fun _ _ => rfl) hz (fun σ e s h => (z_edge hL h hx hy).2.1 c1 c2)
  · exact l_th (l_x259_0 hL (a1 c1)) l_k1 (w_icK hi) (fun _ _ => rfl) hz (fun σ e s h => (z_edge hL h hx hy).1 c1)
theorem l_node (hL : q_lay K) (hO : q_lo K) (hi : w_ic σ N R c X L k) (hz : z_inv σ N R c X L) (hx : w32 x = x) (hy : w32 y = y) : l_P (m_cl Z 260 [(2, ((0 : Nat) : Int)), (0, x), (0, y), (2, ((205 : Nat) : Int))] (K, σ, 206, e, s)) (fun h => m_cl Z 182 [(2, ((191 : Nat) : Int)), (0, x), (0, y)] h) K e s k := by
  obtain ⟨a1, a2, a3⟩ := x_node (Z := Z) (e := e) (s := s) hL hi hx hy
  by_cases c1 : 0 ≤ x ∧ x < N 0 0
  · by_cases c2 : 0 ≤ y ∧ y ≤ 2
    · exact l_ok (l_w260 hL hO (a3 c1 c2)) (w_icK hi) (fun _ _ => rfl) hz (fun σ h => (z_node hL h hx hy).2.2 c1 c2)
    · exact l_th (l_x260_1 hL (a2 c1 c2)) l_k2 (w_icK hi) (fun _ _ => rfl) hz (fun σ e s h => (z_node hL h hx hy).2.1 c1 c2)
  · exact l_th (l_x260_0 hL (a1 c1)) l_k1 (w_icK hi) (fun _ _ => rfl) hz (fun σ e s h => (z_node hL h hx hy).1 c1)
theorem l_stretch (hL : q_lay K) (hO : q_lo K) (hi : w_ic σ N R c X L k) (hz : z_inv σ N R c X L) (hx : w32 x = x) (hy : w32 y = y) : l_P (m_cl Z 261 [(2, ((0 : Nat) : Int)), (0, x), (0, y), (2, ((205 : Nat) : Int))] (K, σ, 206, e, s)) (fun h => m_cl Z 183 [(2, ((191 : Nat) : Int)), (0, x), (0, y)] h) K e s k := by
  obtain ⟨a1, a2, a3⟩ := x_stretch (Z := Z) (e := e) (s := s) hL hi hx hy
  by_cases c1 : 0 ≤ x ∧ x < N 0 2
  · by_cases c2 : 0 ≤ y ∧ y ≤ 2
    · exact l_ok (l_w261 hL hO (a3 c1 c2)) (w_icK hi) (fun _ _ => rfl) hz (fun σ h => (z_stretch hL h hx hy).2.2 c1 c2)
    · exact l_th (l_x261_1 hL (a2 c1 c2)) l_k2 (w_icK hi) (fun _ _ => rfl) hz (fun σ e s h => (z_stretch hL h hx hy).2.1 c1 c2)
  · exact l_th (l_x261_0 hL (a1 c1)) l_k1 (w_icK hi) (fun _ _ => rfl) hz (fun σ e s h => (z_stretch hL h hx hy).1 c1)
theorem l_distance (hL : q_lay K) (hO : q_lo K) (hi : w_ic σ N R c X L k) (hz : z_inv σ N R c X L) (hk : k < 999999) (hx : w32 x = x) (hy : w32 y = y) : l_P (m_cl Z 262 [(2, ((0 : Nat) : Int)), (0, x), (0, y), (2, ((205 : Nat) : Int))] (K, σ, 206, e, s)) (fun h => m_cl Z 187 [(2, ((191 : Nat) : Int)), (0, x), (0, y)] h) K e s k := by
  obtain ⟨a1, a2⟩ := x_distance (Z := Z) (e := e) (s := s) hL hi hk hx hy
  by_cases c1 : (0 ≤ x ∧ x < N 0 0) ∧ 0 ≤ y ∧ y < N 0 0
  · obtain ⟨τ, t1, t2, t3⟩ := a2 c1
    exact l_ok (l_w262 hL hO t1) t2 t3 hz (fun σ h => (z_distance hL h hx hy).2 c1)
  · exact l_th (l_x262_0 hL (a1 c1)) l_k1 (w_icK hi) (fun _ _ => rfl) hz (fun σ e s h => (z_distance hL h hx hy).1 c1)
theorem l_next (hL : q_lay K) (hO : q_lo K) (hi : w_ic σ N R c X L k) (hz : z_inv σ N R c X L) (hk : k < 999999) (hx : w32 x = x) (hy : w32 y = y) : l_P (m_cl Z 263 [(2, ((0 : Nat) : Int)), (0, x), (0, y), (2, ((205 : Nat) : Int))] (K, σ, 206, e, s)) (fun h => m_cl Z 188 [(2, ((191 : Nat) : Int)), (0, x), (0, y)] h) K e s k := by
  obtain ⟨a1, a2⟩ := x_next (Z := Z) (e := e) (s := s) hL hi hk hx hy
  by_cases c1 : (0 ≤ x ∧ x < N 0 0) ∧ 0 ≤ y ∧ y < N 0 0
  · obtain ⟨τ, t1, t2, t3⟩ := a2 c1
    exact l_ok (l_w263 hL hO t1) t2 t3 hz (fun σ h => (z_next hL h hx hy).2 c1)
  · exact l_th (l_x263_0 hL (a1 c1)) l_k1 (w_icK hi) (fun _ _ => rfl) hz (fun σ e s h => (z_next hL h hx hy).1 c1)
theorem l_distanceTo (hL : q_lay K) (hO : q_lo K) (hi : w_ic σ N R c X L k) (hz : z_inv σ N R c X L) (hk : k < 999999) (hx : w32 x = x) (hy : w32 y = y) (hp : w32 p = p) (hq : w32 q = q) (hu : w32 u = u) : l_P (m_cl Z 264 [(2, ((0 : Nat) : Int)), (0, x), (0, y), (0, p), (0, q), (0, u), (2, ((205 : Nat) : Int))] (K, σ, 206, e, s)) (fun h => m_cl Z 196 [(2, ((191 : Nat) : Int)), (0, x), (0, y), (0, p), (0, q), (0, u)] h) K e s k := by
  obtain ⟨a1, a2, a3⟩ := x_distanceTo (Z := Z) (e := e) (s := s) hL hi hk hx hy hp hq hu
  have b := fun σ e s h => z_distanceTo (Z := Z) (K := K) (σ := σ) (N := N) (R := R) (c := c) (X := X) (L := L) (e := e) (s := s) hL h hx hy hp hq hu
  by_cases c1 : (0 ≤ x ∧ x < N 0 0) ∧ 0 ≤ y ∧ y < N 0 1
  · by_cases c2 : y_pt N y.toNat p q ∧ (u = 0 ∨ u = 1)
    · obtain ⟨τ, t1, t2, t3, t4⟩ := a3 c1 c2
      by_cases c3 : w_D N x.toNat (w_f N y.toNat) < 1000000
      · exact l_ok (l_w264 hL hO (t4 c3)) t1 t2 hz (fun σ h => ((b σ _ _ h).2.2 c1 c2).2 c3)
      · exact l_th (l_x264_2 hL (t3 c3)) l_k3 t1 t2 hz (fun σ e s h => ((b σ e s h).2.2 c1 c2).1 c3)
    · exact l_th (l_x264_1 hL (a2 c1 c2)) l_k2 (w_icK hi) (fun _ _ => rfl) hz (fun σ e s h => (b σ e s h).2.1 c1 c2)
  · exact l_th (l_x264_0 hL (a1 c1)) l_k1 (w_icK hi) (fun _ _ => rfl) hz (fun σ e s h => (b σ e s h).1 c1)
theorem l_isAllowed (hL : q_lay K) (hO : q_lo K) (hi : w_ic σ N R c X L k) (hz : z_inv σ N R c X L) (hy : w32 y = y) (hp : w32 p = p) (hq : w32 q = q) : l_PB (fun b => b = 0 ∨ b = 1) (m_cl Z 265 [(2, ((0 : Nat) : Int)), (0, y), (0, p), (0, q), (2, ((205 : Nat) : Int))] (K, σ, 206, e, s)) (fun h => m_cl Z 198 [(2, ((191 : Nat) : Int)), (0, y), (0, p), (0, q)] h) K e s k := by
  obtain ⟨a1, a2, a3⟩ := x_isAllowed (Z := Z) (e := e) (s := s) hL hi hy hp hq
  have b := fun σ e s h => z_isAllowed (Z := Z) (K := K) (σ := σ) (N := N) (R := R) (c := c) (X := X) (L := L) (e := e) (s := s) hL h hy hp hq
  by_cases c1 : 0 ≤ y ∧ y < N 0 1
  · by_cases c2 : y_pt N y.toNat p q
    · exact l_okB (l_w265 hL hO q_oi (a3 c1 c2)) q_oi (w_icK hi) (fun _ _ => rfl) hz (fun σ h => (b σ _ _ h).2.2 c1 c2)
    · exact l_thB (l_x265_1 hL (a2 c1 c2)) (Or.inl rfl) l_k2 (w_icK hi) (fun _ _ => rfl) hz (fun σ e s h => (b σ e s h).2.1 c1 c2)
  · exact l_thB (l_x265_0 hL (a1 c1)) (Or.inl rfl) l_k1 (w_icK hi) (fun _ _ => rfl) hz (fun σ e s h => (b σ e s h).1 c1)
theorem l_height (hL : q_lay K) (hO : q_lo K) (hi : w_ic σ N R c X L k) (hz : z_inv σ N R c X L) (hk : k < 999999) (hx : w32 x = x) (hy : w32 y = y) (hp : w32 p = p) (hq : w32 q = q) (hu : w32 u = u) : l_P (m_cl Z 266 [(2, ((0 : Nat) : Int)), (0, x), (0, y), (0, p), (0, q), (0, u), (2, ((205 : Nat) : Int))] (K, σ, 206, e, s)) (fun h => m_cl Z 203 [(2, ((191 : Nat) : Int)), (0, x), (0, y), (0, p), (0, q), (0, u)] h) K e s k := by
  obtain ⟨a1, a2, a3⟩ := x_height (Z := Z) (e := e) (s := s) hL hi hk hx hy hp hq hu
  have b := fun σ e s h => z_heightC (Z := Z) (K := K) (σ := σ) (N := N) (R := R) (c := c) (X := X) (L := L) (e := e) (s := s) hL h hx hy hp hq hu
  by_cases c1 : 0 ≤ y ∧ y < N 0 1
  · by_cases c2 : (0 ≤ x ∧ x < ((2 ^ w_nn N : Nat) : Int)) ∧ y_pt N y.toNat p q ∧ (u = 0 ∨ u = 1)
    · obtain ⟨τ, t1, t2, t3, t4⟩ := a3 c1 c2
      by_cases c3 : w_cn N
      · exact l_ok (l_w266 hL hO (t4 c3)) t1 t2 hz (fun σ h => ((b σ _ _ h).2.2 c1 c2).2 c3)
      · exact l_th (l_x266_2 hL (t3 c3)) l_k3 t1 t2 hz (fun σ e s h => ((b σ e s h).2.2 c1 c2).1 c3)
    · exact l_th (l_x266_1 hL (a2 c1 c2)) l_k2 (w_icK hi) (fun _ _ => rfl) hz (fun σ e s h => (b σ e s h).2.1 c1 c2)
  · exact l_th (l_x266_0 hL (a1 c1)) l_k1 (w_icK hi) (fun _ _ => rfl) hz (fun σ e s h => (b σ e s h).1 c1)
theorem l_cost (hL : q_lay K) (hO : q_lo K) (hi : w_ic σ N R c X L k) (hz : z_inv σ N R c X L) (hk : k < 999999) (hy : w32 y = y) (hp : w32 p = p) (hq : w32 q = q) (hu : w32 u = u) : l_P (m_cl Z 267 [(2, ((0 : Nat) : Int)), (0, y), (0, p), (0, q), (0, u), (2, ((205 : Nat) : Int))] (K, σ, 206, e, s)) (fun h => m_cl Z 204 [(2, ((191 : Nat) : Int)), (0, y), (0, p), (0, q), (0, u)] h) K e s k := by
  obtain ⟨a1, a2, a3⟩ := x_cost (Z := Z) (e := e) (s := s) hL hi hk hy hp hq hu
  have b := fun σ e s h => z_costC (Z := Z) (K := K) (σ := σ) (N := N) (R := R) (c := c) (X := X) (L := L) (e := e) (s := s) hL h hy hp hq hu
  by_cases c1 : 0 ≤ y ∧ y < N 0 1
  · by_cases c2 : y_pt N y.toNat p q ∧ (u = 0 ∨ u = 1)
    · obtain ⟨τ, t1, t2, t3, t4⟩ := a3 c1 c2
      by_cases c3 : w_cn N
      · exact l_ok (l_w267 hL hO (t4 c3)) t1 t2 hz (fun σ h => ((b σ _ _ h).2.2 c1 c2).2 c3)
      · exact l_th (l_x267_2 hL (t3 c3)) l_k3 t1 t2 hz (fun σ e s h => ((b σ e s h).2.2 c1 c2).1 c3)
    · exact l_th (l_x267_1 hL (a2 c1 c2)) l_k2 (w_icK hi) (fun _ _ => rfl) hz (fun σ e s h => (b σ e s h).2.1 c1 c2)
  · exact l_th (l_x267_0 hL (a1 c1)) l_k1 (w_icK hi) (fun _ _ => rfl) hz (fun σ e s h => (b σ e s h).1 c1)
theorem l_corner (hL : q_lay K) (hO : q_lo K) (hi : w_ic σ N R c X L k) (hz : z_inv σ N R c X L) (hk : k < 999999) (hx : w32 x = x) (hy : w32 y = y) (hw : w32 z = z) : l_P (m_cl Z 268 [(2, ((0 : Nat) : Int)), (0, x), (0, y), (0, z), (2, ((205 : Nat) : Int))] (K, σ, 206, e, s)) (fun h => m_cl Z 215 [(2, ((191 : Nat) : Int)), (0, x), (0, y), (0, z)] h) K e s k := by
  obtain ⟨a1, a2, a3⟩ := x_corner (Z := Z) (e := e) (s := s) hL hi hk hx hy hw
  have b := fun σ e s h => z_corner (Z := Z) (K := K) (σ := σ) (N := N) (R := R) (c := c) (X := X) (L := L) (e := e) (s := s) hL h hx hy hw
  by_cases c1 : 0 ≤ x ∧ x < N 0 1
  · by_cases c2 : 0 ≤ z ∧ z ≤ 3
    · obtain ⟨τ, t1, t2, t3, t4⟩ := a3 c1 c2
      by_cases c3 : w_cn N
      · obtain ⟨v, ⟨c', P, Q, V, v1, v2⟩, v3⟩ := t4 c3
        rw [v2] at v3
        exact l_ok (l_w268 hL hO v3) t1 t2 hz (fun σ h => ((b σ _ _ h).2.2 c1 c2).2 c3 c' P Q V v1)
      · exact l_th (l_x268_2 hL (t3 c3)) l_k3 t1 t2 hz (fun σ e s h => ((b σ e s h).2.2 c1 c2).1 c3)
    · exact l_th (l_x268_1 hL (a2 c1 c2)) l_k2 (w_icK hi) (fun _ _ => rfl) hz (fun σ e s h => (b σ e s h).2.1 c1 c2)
  · exact l_th (l_x268_0 hL (a1 c1)) l_k1 (w_icK hi) (fun _ _ => rfl) hz (fun σ e s h => (b σ e s h).1 c1)
theorem l_radius (hL : q_lay K) (hO : q_lo K) (hi : w_ic σ N R c X L k) (hz : z_inv σ N R c X L) (hk : k < 999999) (hx : w32 x = x) (hy : w32 y = y) : l_P (m_cl Z 269 [(2, ((0 : Nat) : Int)), (0, x), (0, y), (2, ((205 : Nat) : Int))] (K, σ, 206, e, s)) (fun h => m_cl Z 218 [(2, ((191 : Nat) : Int)), (0, x), (0, y)] h) K e s k := by
  obtain ⟨a1, a2⟩ := x_radius (Z := Z) (e := e) (s := s) hL hi hk hx hy
  have b := fun σ e s h => z_radius (Z := Z) (K := K) (σ := σ) (N := N) (R := R) (c := c) (X := X) (L := L) (e := e) (s := s) hL h hx hy
  by_cases c1 : (0 ≤ x ∧ x < ((2 ^ w_nn N : Nat) : Int)) ∧ (y = 0 ∨ y = 1)
  · obtain ⟨τ, t1, t2, t3, t4⟩ := a2 c1
    by_cases c3 : y_cc N
    · obtain ⟨b0, b1, b2⟩ := t4 c3
      exact l_ok (l_w269 hL hO b2) t1 t2 hz (fun σ h => ((b σ _ _ h).2 c1).2 c3 b0 b1)
    · exact l_th (l_x269_2 hL (t3 c3)) l_k2 t1 t2 hz (fun σ e s h => ((b σ e s h).2 c1).1 c3)
  · exact l_th (l_x269_1 hL (a1 c1)) l_k1 (w_icK hi) (fun _ _ => rfl) hz (fun σ e s h => (b σ e s h).1 c1)
theorem l_center (hL : q_lay K) (hO : q_lo K) (hi : w_ic σ N R c X L k) (hz : z_inv σ N R c X L) (hk : k < 999999) (hx : w32 x = x) (hy : w32 y = y) : l_P (m_cl Z 270 [(2, ((0 : Nat) : Int)), (0, x), (0, y), (2, ((205 : Nat) : Int))] (K, σ, 206, e, s)) (fun h => m_cl Z 220 [(2, ((191 : Nat) : Int)), (0, x), (0, y)] h) K e s k := by
  obtain ⟨a1, a2⟩ := x_center (Z := Z) (e := e) (s := s) hL hi hk hx hy
  have b := fun σ e s h => z_center (Z := Z) (K := K) (σ := σ) (N := N) (R := R) (c := c) (X := X) (L := L) (e := e) (s := s) hL h hx hy
  by_cases c1 : (0 ≤ x ∧ x < ((2 ^ w_nn N : Nat) : Int)) ∧ (0 ≤ y ∧ y ≤ 2)
  · obtain ⟨τ, t1, t2, t3, t4⟩ := a2 c1
    by_cases c3 : y_cc N
    · obtain ⟨b0, b1, b2⟩ := t4 c3
      exact l_ok (l_w270 hL hO b2) t1 t2 hz (fun σ h => ((b σ _ _ h).2 c1).2 c3 b0 b1)
    · exact l_th (l_x270_2 hL (t3 c3)) l_k2 t1 t2 hz (fun σ e s h => ((b σ e s h).2 c1).1 c3)
  · exact l_th (l_x270_1 hL (a1 c1)) l_k1 (w_icK hi) (fun _ _ => rfl) hz (fun σ e s h => (b σ e s h).1 c1)
theorem l_critical (hL : q_lay K) (hO : q_lo K) (hi : w_ic σ N R c X L k) (hz : z_inv σ N R c X L) (hk : k < 999999) (hx : w32 x = x) : l_P (m_cl Z 271 [(2, ((0 : Nat) : Int)), (0, x), (2, ((205 : Nat) : Int))] (K, σ, 206, e, s)) (fun h => m_cl Z 222 [(2, ((191 : Nat) : Int)), (0, x)] h) K e s k := by
  obtain ⟨a1, a2⟩ := x_critical (Z := Z) (e := e) (s := s) hL hi hk hx
  have b := fun σ e s h => z_critical (Z := Z) (K := K) (σ := σ) (N := N) (R := R) (c := c) (X := X) (L := L) (e := e) (s := s) hL h hx
  by_cases c1 : 0 ≤ x ∧ x < ((2 ^ w_nn N : Nat) : Int)
  · obtain ⟨τ, t1, t2, t3, t4⟩ := a2 c1
    by_cases c3 : y_cc N
    · obtain ⟨b0, b1, b2⟩ := t4 c3
      exact l_ok (l_w271 hL hO b2) t1 t2 hz (fun σ h => ((b σ _ _ h).2 c1).2 c3 b0 b1)
    · exact l_th (l_x271_2 hL (t3 c3)) l_k2 t1 t2 hz (fun σ e s h => ((b σ e s h).2 c1).1 c3)
  · exact l_th (l_x271_1 hL (a1 c1)) l_k1 (w_icK hi) (fun _ _ => rfl) hz (fun σ e s h => (b σ e s h).1 c1)
theorem l_median (hL : q_lay K) (hO : q_lo K) (hi : w_ic σ N R c X L k) (hz : z_inv σ N R c X L) (hk : k < 999999) (hx : w32 x = x) : l_P (m_cl Z 272 [(2, ((0 : Nat) : Int)), (0, x), (2, ((205 : Nat) : Int))] (K, σ, 206, e, s)) (fun h => m_cl Z 225 [(2, ((191 : Nat) : Int)), (0, x)] h) K e s k := by
  obtain ⟨a1, a2⟩ := x_median (Z := Z) (e := e) (s := s) hL hi hk hx
  have b := fun σ e s h => z_median (Z := Z) (K := K) (σ := σ) (N := N) (R := R) (c := c) (X := X) (L := L) (e := e) (s := s) hL h hx
  by_cases c1 : 0 ≤ x ∧ x ≤ 4
  · obtain ⟨τ, t1, t2, t3, t4⟩ := a2 c1
    by_cases c3 : y_cc N
    · obtain ⟨b0, b1, b2⟩ := t4 c3
      exact l_ok (l_w272 hL hO b2) t1 t2 hz (fun σ h => ((b σ _ _ h).2 c1).2 c3 b0 b1)
    · exact l_th (l_x272_2 hL (t3 c3)) l_k2 t1 t2 hz (fun σ e s h => ((b σ e s h).2 c1).1 c3)
  · exact l_th (l_x272_1 hL (a1 c1)) l_k1 (w_icK hi) (fun _ _ => rfl) hz (fun σ e s h => (b σ e s h).1 c1)
theorem l_radiusOf (hL : q_lay K) (hO : q_lo K) (hi : w_ic σ N R c X L k) (hz : z_inv σ N R c X L) (hk : k < 999999) (hx : w32 x = x) (hy : w32 y = y) : l_P (m_cl Z 273 [(2, ((0 : Nat) : Int)), (0, x), (0, y), (2, ((205 : Nat) : Int))] (K, σ, 206, e, s)) (fun h => m_cl Z 229 [(2, ((191 : Nat) : Int)), (0, x), (0, y)] h) K e s k := by
  obtain ⟨a1, a2⟩ := x_radiusOf (Z := Z) (e := e) (s := s) hL hi hk hx hy
  have b := fun σ e s h => z_radiusOf (Z := Z) (K := K) (σ := σ) (N := N) (R := R) (c := c) (X := X) (L := L) (e := e) (s := s) hL h hx hy
  by_cases c1 : (1 ≤ x ∧ x ≤ 3) ∧ (y = 0 ∨ y = 1)
  · obtain ⟨τ, t1, t2, t3, t4⟩ := a2 c1
    by_cases c3 : y_cc N
    · obtain ⟨f1, f2, f3, p, q, b1, b2, b3, b4, b5⟩ := t4 c3
      exact l_ok (l_w273 hL hO b5) t1 t2 hz (fun σ h => ((b σ _ _ h).2 c1).2 c3 f1 f2 f3 p q b1 b2 b3 b4)
    · exact l_th (l_x273_2 hL (t3 c3)) l_k2 t1 t2 hz (fun σ e s h => ((b σ e s h).2 c1).1 c3)
  · exact l_th (l_x273_1 hL (a1 c1)) l_k1 (w_icK hi) (fun _ _ => rfl) hz (fun σ e s h => (b σ e s h).1 c1)
theorem l_group (hL : q_lay K) (hO : q_lo K) (hi : w_ic σ N R c X L k) (hz : z_inv σ N R c X L) (hk : k < 999999) (hx : w32 x = x) (hy : w32 y = y) : l_P (m_cl Z 274 [(2, ((0 : Nat) : Int)), (0, x), (0, y), (2, ((205 : Nat) : Int))] (K, σ, 206, e, s)) (fun h => m_cl Z 232 [(2, ((191 : Nat) : Int)), (0, x), (0, y)] h) K e s k := by
  obtain ⟨a1, a2⟩ := x_group (Z := Z) (e := e) (s := s) hL hi hk hx hy
  have b := fun σ e s h => z_group (Z := Z) (K := K) (σ := σ) (N := N) (R := R) (c := c) (X := X) (L := L) (e := e) (s := s) hL h hx hy
  by_cases c1 : (1 ≤ x ∧ x ≤ 3) ∧ 0 ≤ y ∧ y < x
  · obtain ⟨τ, t1, t2, t3, t4⟩ := a2 c1
    by_cases c3 : y_cc N
    · obtain ⟨f1, f2, f3, r, b1, b2, b3⟩ := t4 c3
      exact l_ok (l_w274 hL hO b3) t1 t2 hz (fun σ h => ((b σ _ _ h).2 c1).2 c3 f1 f2 f3 r b1 b2)
    · exact l_th (l_x274_2 hL (t3 c3)) l_k2 t1 t2 hz (fun σ e s h => ((b σ e s h).2 c1).1 c3)
  · exact l_th (l_x274_1 hL (a1 c1)) l_k1 (w_icK hi) (fun _ _ => rfl) hz (fun σ e s h => (b σ e s h).1 c1)
theorem l_covering (hL : q_lay K) (hO : q_lo K) (hi : w_ic σ N R c X L k) (hz : z_inv σ N R c X L) (hk : k < 999999) (hx : w32 x = x) (hx2 : x ≤ 2147483647) (hy : w32 y = y) : l_P (m_cl Z 275 [(2, ((0 : Nat) : Int)), (0, x), (0, y), (2, ((205 : Nat) : Int))] (K, σ, 206, e, s)) (fun h => m_cl Z 233 [(2, ((191 : Nat) : Int)), (0, x), (0, y)] h) K e s k := by
  obtain ⟨a1, a2⟩ := x_covering (Z := Z) (e := e) (s := s) hL hi hk hx hx2 hy
  have b := fun σ e s h => z_covering (Z := Z) (K := K) (σ := σ) (N := N) (R := R) (c := c) (X := X) (L := L) (e := e) (s := s) hL h hx hy
  by_cases c1 : 0 ≤ x ∧ 1 ≤ y ∧ y ≤ 1000
  · obtain ⟨τ, t1, t2, t3, t4⟩ := a2 c1
    by_cases c3 : y_cc N
    · obtain ⟨f1, f2, f3, r, b1, b2, b3⟩ := t4 c3
      exact l_ok (l_w275 hL hO b3) t1 t2 hz (fun σ h => ((b σ _ _ h).2 c1).2 c3 f1 f2 f3 r b1 b2)
    · exact l_th (l_x275_2 hL (t3 c3)) l_k2 t1 t2 hz (fun σ e s h => ((b σ e s h).2 c1).1 c3)
  · exact l_th (l_x275_1 hL (a1 c1)) l_k1 (w_icK hi) (fun _ _ => rfl) hz (fun σ e s h => (b σ e s h).1 c1)
theorem l_covered (hL : q_lay K) (hO : q_lo K) (hi : w_ic σ N R c X L k) (hz : z_inv σ N R c X L) (hk : k < 999999) (hx : w32 x = x) (hy : w32 y = y) (hw : w32 z = z) : l_P (m_cl Z 276 [(2, ((0 : Nat) : Int)), (0, x), (0, y), (0, z), (2, ((205 : Nat) : Int))] (K, σ, 206, e, s)) (fun h => m_cl Z 234 [(2, ((191 : Nat) : Int)), (0, x), (0, y), (0, z)] h) K e s k := by
  obtain ⟨a1, a2, a3⟩ := x_covered (Z := Z) (e := e) (s := s) hL hi hk hx hy hw
  have b := fun σ e s h => z_covered (Z := Z) (K := K) (σ := σ) (N := N) (R := R) (c := c) (X := X) (L := L) (e := e) (s := s) hL h hx hy hw
  by_cases c1 : 0 ≤ x ∧ x < N 0 1
  · by_cases c2 : 0 ≤ y ∧ y ≤ N 10 x.toNat ∧ 0 ≤ z
    · obtain ⟨τ, t1, t2, t3, t4⟩ := a3 c1 c2
      by_cases c3 : w_cn N
      · exact l_ok (l_w276 hL hO (t4 c3)) t1 t2 hz (fun σ h => ((b σ _ _ h).2.2 c1 c2).2 c3)
      · exact l_th (l_x276_2 hL (t3 c3)) l_k3 t1 t2 hz (fun σ e s h => ((b σ e s h).2.2 c1 c2).1 c3)
    · exact l_th (l_x276_1 hL (a2 c1 c2)) l_k2 (w_icK hi) (fun _ _ => rfl) hz (fun σ e s h => (b σ e s h).2.1 c1 c2)
  · exact l_th (l_x276_0 hL (a1 c1)) l_k1 (w_icK hi) (fun _ _ => rfl) hz (fun σ e s h => (b σ e s h).1 c1)
theorem l_changed (hL : q_lay K) (hO : q_lo K) (hi : w_ic σ N R c X L k) (hz : z_inv σ N R c X L) (hk : k < 999999) (hx : w32 x = x) (hy : w32 y = y) : l_P (m_cl Z 277 [(2, ((0 : Nat) : Int)), (0, x), (0, y), (2, ((205 : Nat) : Int))] (K, σ, 206, e, s)) (fun h => m_cl Z 235 [(2, ((191 : Nat) : Int)), (0, x), (0, y)] h) K e s k := by
  obtain ⟨a1, a2⟩ := x_changed (Z := Z) (e := e) (s := s) hL hi hk hx hy
  have b := fun σ e s h => z_changed (Z := Z) (K := K) (σ := σ) (N := N) (R := R) (c := c) (X := X) (L := L) (e := e) (s := s) hL h hx hy
  by_cases c1 : (0 ≤ x ∧ x ≤ 10) ∧ (y = 0 ∨ y = 1)
  · obtain ⟨τ, t1, t2, t3, t4⟩ := a2 c1
    by_cases c3 : y_cc N
    · obtain ⟨b0, b1, b2⟩ := t4 c3
      exact l_ok (l_w277 hL hO b2) t1 t2 hz (fun σ h => ((b σ _ _ h).2 c1).2 c3 b0 b1)
    · exact l_th (l_x277_2 hL (t3 c3)) l_k2 t1 t2 hz (fun σ e s h => ((b σ e s h).2 c1).1 c3)
  · exact l_th (l_x277_1 hL (a1 c1)) l_k1 (w_icK hi) (fun _ _ => rfl) hz (fun σ e s h => (b σ e s h).1 c1)
theorem l_without (hL : q_lay K) (hO : q_lo K) (hi : w_ic σ N R c X L k) (hz : z_inv σ N R c X L) (hk : k < 999999) (hx : w32 x = x) (hy : w32 y = y) : l_P (m_cl Z 278 [(2, ((0 : Nat) : Int)), (0, x), (0, y), (2, ((205 : Nat) : Int))] (K, σ, 206, e, s)) (fun h => m_cl Z 236 [(2, ((191 : Nat) : Int)), (0, x), (0, y)] h) K e s k := by
  obtain ⟨a1, a2, a3⟩ := x_without (Z := Z) (e := e) (s := s) hL hi hk hx hy
  have b := fun σ e s h => z_without (Z := Z) (K := K) (σ := σ) (N := N) (R := R) (c := c) (X := X) (L := L) (e := e) (s := s) hL h hx hy
  by_cases c1 : 0 ≤ x ∧ x < N 0 1
  · by_cases c2 : y = 0 ∨ y = 1
    · obtain ⟨τ, t1, t2, t3, t4⟩ := a3 c1 c2
      by_cases c3 : y_cc (o_ds x.toNat N)
      · obtain ⟨b0, b1, b2⟩ := t4 c3
        exact l_ok (l_w278 hL hO b2) t1 t2 hz (fun σ h => ((b σ _ _ h).2.2 c1 c2).2 c3 b0 b1)
      · exact l_ok (l_w278 hL hO (t3 c3)) t1 t2 hz (fun σ h => ((b σ _ _ h).2.2 c1 c2).1 c3)
    · exact l_th (l_x278_1 hL (a2 c1 c2)) l_k2 (w_icK hi) (fun _ _ => rfl) hz (fun σ e s h => (b σ e s h).2.1 c1 c2)
  · exact l_th (l_x278_0 hL (a1 c1)) l_k1 (w_icK hi) (fun _ _ => rfl) hz (fun σ e s h => (b σ e s h).1 c1)
theorem l_type (hL : q_lay K) (hO : q_lo K) (hi : w_ic σ N R c X L k) (hz : z_inv σ N R c X L) (hx : w32 x = x) : l_P (m_cl Z 279 [(2, ((0 : Nat) : Int)), (0, x), (2, ((205 : Nat) : Int))] (K, σ, 206, e, s)) (fun h => m_cl Z 237 [(2, ((191 : Nat) : Int)), (0, x)] h) K e s k := by
  obtain ⟨a1, a2, a3⟩ := x_type (Z := Z) (e := e) (s := s) hL hi hx
  have b := fun σ e s h => z_type (Z := Z) (K := K) (σ := σ) (N := N) (R := R) (c := c) (X := X) (L := L) (e := e) (s := s) hL h hx
  by_cases c1 : 32 ≤ x ∧ x ≤ 126
  · by_cases c2 : L = 120
    · exact l_th (l_x279_2 hL (a2 c1 c2)) l_k2 (w_icK hi) (fun _ _ => rfl) hz (fun σ e s h => (b σ e s h).2.1 c1 c2)
    · obtain ⟨τ, t1, t2, t3⟩ := a3 c1 c2
      exact l_ok (l_w279 hL hO t1) (w_icK t2) t3 hz (fun σ h => (b σ _ _ h).2.2 c1 c2)
  · exact l_th (l_x279_1 hL (a1 c1)) l_k1 (w_icK hi) (fun _ _ => rfl) hz (fun σ e s h => (b σ e s h).1 c1)
theorem l_run (hL : q_lay K) (hO : q_lo K) (hi : w_ic σ N R c X L k) (hz : z_inv σ N R c X L) : l_P (m_cl Z 280 [(2, ((0 : Nat) : Int)), (2, ((205 : Nat) : Int))] (K, σ, 206, e, s)) (fun h => m_cl Z 247 [(2, ((191 : Nat) : Int))] h) K e s k := by
  obtain ⟨a1, a2⟩ := x_run (Z := Z) (e := e) (s := s) hL hi
  have b := fun σ e s h => z_runC (Z := Z) (K := K) (σ := σ) (N := N) (R := R) (c := c) (X := X) (L := L) (e := e) (s := s) hL h
  by_cases c1 : w_fl X L = -1
  · obtain ⟨τ, t1, t2, t3⟩ := a2 c1
    exact l_ok (l_w280 hL hO t1) (w_icK t2) t3 hz (fun σ h => (b σ _ _ h).2 c1)
  · obtain ⟨τ, t1, t2, t3⟩ := a1 c1
    exact l_th (l_x280_1 hL t1) l_k1 (w_icK t2) t3 hz (fun σ e s h => (b σ e s h).1 c1)
theorem l_undo (hL : q_lay K) (hO : q_lo K) (hi : w_ic σ N R c X L k) (hz : z_inv σ N R c X L) : l_P (m_cl Z 281 [(2, ((0 : Nat) : Int)), (2, ((205 : Nat) : Int))] (K, σ, 206, e, s)) (fun h => m_cl Z 155 [(2, ((191 : Nat) : Int))] h) K e s k := by
  obtain ⟨a1, a2⟩ := x_undo (Z := Z) (e := e) (s := s) hL hi
  have b := fun σ e s h => z_undo (Z := Z) (K := K) (σ := σ) (N := N) (R := R) (c := c) (X := X) (L := L) (e := e) (s := s) hL h
  by_cases c1 : c = 0
  · exact l_th (l_x281_2 hL (a1 c1)) l_k1 (w_icK hi) (fun _ _ => rfl) hz (fun σ e s h => (b σ e s h).1 c1)
  · obtain ⟨τ, t1, t2, t3⟩ := a2 c1
    exact l_ok (l_w281 hL hO t1) (w_icK t2) t3 hz (fun σ h => (b σ _ _ h).2 c1)
theorem z_invA (hz : z_inv σ N R c X L) (hf : ∀ a, 191 ≤ a → τ a = σ a) : z_inv τ N R c X L := z_invG hz (fun a h1 _ => hf a h1)
theorem l_diameter (hL : q_lay K) (hi : w_ic σ N R c X L k) (hz : z_inv σ N R c X L) (hk : k < 999999) : l_D (m_cl Z 108 [(2, ((0 : Nat) : Int))] (K, σ, 206, e, s)) (fun h => m_cl Z 189 [(2, ((191 : Nat) : Int))] h) K e s k := by
  obtain ⟨τ, v, t1, t2, t3, t4, t5⟩ := x_diameter (Z := Z) (e := e) (s := s) hL hi hk
  obtain ⟨v', u1, u2, u3⟩ := z_diameter (Z := Z) (e := e) (s := s) hL (z_invA hz t3)
  have e : v' = v := by
    by_cases c2 : w_cn N
    · rw [t4 c2]; exact u2 c2
    · rw [t5 c2]; exact u3 c2
  rw [e] at u1
  exact ⟨τ, N, R, c, X, L, v, t1, t2, u1⟩
theorem l_clearText (hL : q_lay K) (hi : w_ic σ N R c X L k) (hz : z_inv σ N R c X L) : l_D (m_cl Z 125 [(2, ((0 : Nat) : Int))] (K, σ, 206, e, s)) (fun h => m_cl Z 238 [(2, ((191 : Nat) : Int))] h) K e s k := by
  obtain ⟨τ, t1, t2, t3⟩ := x_clear (Z := Z) (e := e) (s := s) hL hi
  exact ⟨τ, N, R, c, X, 0, _, t1, w_icK t2, z_clear hL (z_invA hz t3)⟩
theorem l_fault (hL : q_lay K) (hi : w_ic σ N R c X L k) (hz : z_inv σ N R c X L) : l_D (m_cl Z 126 [(2, ((0 : Nat) : Int))] (K, σ, 206, e, s)) (fun h => m_cl Z 246 [(2, ((191 : Nat) : Int))] h) K e s k := by
  obtain ⟨τ, t1, t2, t3⟩ := x_fault (Z := Z) (e := e) (s := s) hL hi
  exact ⟨τ, N, R, c, X, L, _, t1, w_icK t2, z_faultC hL (z_invA hz t3)⟩
theorem l_checksum (hL : q_lay K) (hi : w_ic σ N R c X L k) (hz : z_inv σ N R c X L) (hk : k < 999999) : ∃ τ b, m_cl Z 129 [(2, ((0 : Nat) : Int))] (K, σ, 206, e, s) = some (.inl (1, b), (K, τ, 206, e, s)) ∧ w_ic τ N R c X L (k + 1) ∧ z_OL (m_cl Z 250 [(2, ((191 : Nat) : Int))] (K, τ, 206, e, s)) K e s τ N R c X L 0 b := by
  obtain ⟨τ, v, ν, t1, t2, t3, t4, t5, t6, t7⟩ := x_checksum (Z := Z) (e := e) (s := s) hL hi hk
  exact ⟨τ, _, t1, t2, z_checksum hL (z_invA hz t3) ⟨t4, t5⟩ t6 t7⟩
end
end
