/-! The small machine's heap and locals against the machine's. E: where the small cells begin, the script's cell, the String constants' cells, the classes of int[], long[], Network[], the classes' numbers. -/
abbrev mE : Type := Nat × Nat × (Nat → Nat) × (ClassId × ClassId × ClassId) × va_G
def mt_rf (E : mE) (x : Int) : Option Nat := match x with
  | .ofNat a => some (E.1 + a)
  | .negSucc _ => none
def mt_v (E : mE) (v : mV) : Value := match v with
  | (0, x) => .int (Int32.ofInt x)
  | (1, x) => .long (Int64.ofInt x)
  | (2, x) => va_rf (mt_rf E x)
  | (3, x) => .ref (E.2.2.1 x.toNat)
  | (4, _) => .ref E.2.1
  | _ => .null
def mt_f (E : mE) (ty : Nat) (r x : Int) : Value := if ty = 2 then va_rf (mt_rf E r) else if ty = 1 then .long (Int64.ofInt x) else .int (Int32.ofInt x)
def mt_fs (E : mE) (ci : Nat) (rf s : Nat → Int) : List Value := (List.range (m_tys ci).length).map (fun j => mt_f E (m_ty ci j) (rf j) (s j))
def mt_c (E : mE) (K : mK) (s : Nat → Int) : va_E :=
  if K.1 = 1 then .inr (K.2.1, mt_fs E K.2.1 K.2.2 s)
  else if K.1 = 2 then .inl (E.2.2.2.1.1, K.2.1, .inl (fun j => Int32.ofInt (s j)))
  else if K.1 = 3 then .inl (E.2.2.2.1.2.1, K.2.1, .inr (.inl (fun j => Int64.ofInt (s j))))
  else .inl (E.2.2.2.1.2.2, K.2.1, .inr (.inr (.inr (.inr (fun j => mt_rf E (K.2.2 j))))))
def mt_w (E : mE) (h : mH) : va_W := (List.range h.2.2.1).map (fun k => (E.1 + k, mt_c E (h.1 k) (h.2.1 k)))
def mt_A (E : mE) : Nat → Prop := fun q => E.1 ≤ q
def mt_tys (E : mE) : List (ClassId × FieldType) := [(E.2.2.2.1.1, .int), (E.2.2.2.1.2.2, .object RX1)]
def mt_R (E : mE) (h : mH) (H : Heap) : Prop := va_P E.2.2.2.2 vwCl (mt_w E h) H ∧ va_D (mt_A E) (mt_w E h)
theorem mt_w_at {E : mE} {h : mH} {a : Nat} (ha : a < h.2.2.1) : (mt_w E h)[a]? = some (E.1 + a, mt_c E (h.1 a) (h.2.1 a)) := by
  simp [mt_w, ha]
theorem mt_w_len (E : mE) (h : mH) : (mt_w E h).length = h.2.2.1 := by simp [mt_w]
theorem mt_w_set {E : mE} {h : mH} {a : Nat} {K : mK} {s : Nat → Int} {e : Nat × va_E} (he : e = (E.1 + a, mt_c E K s)) : (mt_w E h).set a e = mt_w E (m_up h.1 a K, m_up h.2.1 a s, h.2.2) := by
  subst he
  apply List.ext_getElem?
  intro i
  rw [List.getElem?_set]
  by_cases hi : i < h.2.2.1
  · by_cases hai : a = i
    · subst hai
      rw [if_pos rfl, if_pos (by rw [mt_w_len]; exact hi), mt_w_at (h := (m_up h.1 a K, m_up h.2.1 a s, h.2.2)) hi]
      simp [m_up]
    · rw [if_neg hai, mt_w_at hi, mt_w_at (h := (m_up h.1 a K, m_up h.2.1 a s, h.2.2)) hi]
      simp [m_up, show ¬ i = a from fun q => hai q.symm]
  · have n1 : (mt_w E h)[i]? = none := List.getElem?_eq_none (by rw [mt_w_len]; omega)
    have n2 : (mt_w E (m_up h.1 a K, m_up h.2.1 a s, h.2.2))[i]? = none := List.getElem?_eq_none (by rw [mt_w_len]; show h.2.2.1 ≤ i; omega)
    rw [n1, n2]
    by_cases hai : a = i
    · subst hai
      rw [if_pos rfl, if_neg (by rw [mt_w_len]; exact hi)]
    · rw [if_neg hai]
theorem m_up_self {α : Type} (f : Nat → α) (a : Nat) : m_up f a (f a) = f := by
  funext j
  unfold m_up
  split
  · next q => rw [q]
  · rfl
theorem m_up2_eq (f : Nat → Nat → Int) (a k : Nat) (v : Int) : m_up2 f a k v = m_up f a (m_up (f a) k v) := by
  funext b j
  unfold m_up2 m_up
  by_cases hb : b = a
  · subst hb
    by_cases hj : j = k
    · simp [hj]
    · simp [hj]
  · simp [hb]
theorem mt_w_set2 {E : mE} {h : mH} {a k : Nat} {v : Int} {e : Nat × va_E} (he : e = (E.1 + a, mt_c E (h.1 a) (m_up (h.2.1 a) k v))) : (mt_w E h).set a e = mt_w E (h.1, m_up2 h.2.1 a k v, h.2.2) := by
  rw [mt_w_set he, m_up_self, m_up2_eq]
theorem mt_w_setK {E : mE} {h : mH} {a : Nat} {K : mK} {e : Nat × va_E} (he : e = (E.1 + a, mt_c E K (h.2.1 a))) : (mt_w E h).set a e = mt_w E (m_up h.1 a K, h.2) := by
  rw [mt_w_set he, m_up_self]
theorem mt_w_push {E : mE} {h : mH} {K : mK} {n : Nat} {e : Nat × va_E} (he : e = (E.1 + h.2.2.1, mt_c E K (fun _ => 0))) : mt_w E h ++ [e] = mt_w E (m_newc K n h) := by
  subst he
  have e1 : mt_w E (m_newc K n h) = (List.range (h.2.2.1 + 1)).map (fun k => (E.1 + k, mt_c E (m_up h.1 h.2.2.1 K k) (m_up h.2.1 h.2.2.1 (fun _ => 0) k))) := rfl
  rw [e1, List.range_succ, List.map_append]
  congr 1
  · unfold mt_w
    apply List.map_congr_left
    intro k hk
    have hk := List.mem_range.mp hk
    simp [m_up, show ¬ k = h.2.2.1 by omega]
  · simp [m_up]
theorem mt_fs_at {E : mE} {ci : Nat} {rf s : Nat → Int} {k : Nat} (hk : k < (m_tys ci).length) : (mt_fs E ci rf s)[k]? = some (mt_f E (m_ty ci k) (rf k) (s k)) := by simp [mt_fs, hk]
theorem mt_fs_len (E : mE) (ci : Nat) (rf s : Nat → Int) : (mt_fs E ci rf s).length = (m_tys ci).length := by simp [mt_fs]
theorem mt_fs_set {E : mE} {ci : Nat} {rf s rf' s' : Nat → Int} {k : Nat} {v : Value} (hv : v = mt_f E (m_ty ci k) (rf' k) (s' k)) (h : ∀ j, j ≠ k → rf' j = rf j ∧ s' j = s j) : (mt_fs E ci rf s).set k v = mt_fs E ci rf' s' := by
  apply List.ext_getElem?
  intro i
  rw [List.getElem?_set]
  by_cases hi : i < (m_tys ci).length
  · by_cases hk : k = i
    · subst hk
      rw [if_pos rfl, if_pos (by rw [mt_fs_len]; exact hi), mt_fs_at hi, hv]
    · rw [if_neg hk, mt_fs_at hi, mt_fs_at hi, (h i (fun q => hk q.symm)).1, (h i (fun q => hk q.symm)).2]
  · have n1 : (mt_fs E ci rf s)[i]? = none := List.getElem?_eq_none (by rw [mt_fs_len]; omega)
    have n2 : (mt_fs E ci rf' s')[i]? = none := List.getElem?_eq_none (by rw [mt_fs_len]; omega)
    rw [n1, n2]
    by_cases hk : k = i
    · subst hk
      rw [if_pos rfl, if_neg (by rw [mt_fs_len]; exact hi)]
    · rw [if_neg hk]
-- the classes' tables
def m_tyF (c : Nat) : Nat → FieldType := ([tyX0, tyX1, tyX2, tyX3, tyX4, tyX5, tyX6] : List (Nat → FieldType)).getD c tyX0
def m_tyc (t : FieldType) : Nat := match t with
  | .int => 0
  | .long => 1
  | .boolean => 3
  | .object _ => 2
  | .array _ => 2
  | _ => 8
theorem mt_cls : ∀ c, c < 7 → vwCl[c]? = some (m_cl3 c) ∧ (m_cl3 c).2.2 = (m_tys c).length ∧ (m_cl3 c).1 = m_cn c := by
  intro c h
  rcases (show c = 0 ∨ c = 1 ∨ c = 2 ∨ c = 3 ∨ c = 4 ∨ c = 5 ∨ c = 6 by omega) with rfl | rfl | rfl | rfl | rfl | rfl | rfl <;> exact ⟨rfl, rfl, rfl⟩
theorem mt_tyok : ∀ c, c < 7 → ∀ k, k < (m_cl3 c).2.2 → parseFieldDescriptor ((m_cl3 c).2.1 k).2.2.1 = some (m_tyF c k) := by
  intro c h
  rcases (show c = 0 ∨ c = 1 ∨ c = 2 ∨ c = 3 ∨ c = 4 ∨ c = 5 ∨ c = 6 by omega) with rfl | rfl | rfl | rfl | rfl | rfl | rfl
  · exact tyX0_ok
  · exact tyX1_ok
  · exact tyX2_ok
  · exact tyX3_ok
  · exact tyX4_ok
  · exact tyX5_ok
  · exact tyX6_ok
theorem mt_nmok : ∀ c, c < 7 → ∀ a, a < (m_cl3 c).2.2 → ∀ b, b < (m_cl3 c).2.2 → a ≠ b → ((m_cl3 c).2.1 a).2.1 ≠ ((m_cl3 c).2.1 b).2.1 := by
  intro c h
  rcases (show c = 0 ∨ c = 1 ∨ c = 2 ∨ c = 3 ∨ c = 4 ∨ c = 5 ∨ c = 6 by omega) with rfl | rfl | rfl | rfl | rfl | rfl | rfl
  · exact nmX0
  · exact nmX1
  · exact nmX2
  · exact nmX3
  · exact nmX4
  · exact nmX5
  · exact nmX6
theorem mt_tyck : ∀ c, c < 7 → (List.range (m_tys c).length).all (fun k => m_tyc (m_tyF c k) == m_ty c k && (((m_cl3 c).2.1 k).2.2.2 == (m_ty c k == 2)) && (((m_cl3 c).2.1 k).1 == m_cn c)) = true := by decide +kernel
-- locals
theorem m_set1_len : ∀ (ls : List mV) (k : Nat) (v : mV), (m_set1 ls k v).length = ls.length
  | [], _, _ => rfl
  | _ :: _, 0, _ => rfl
  | [_], 1, _ => rfl
  | _ :: _ :: _, 1, _ => rfl
  | a :: l, k + 2, v => by rw [m_set1, List.length_cons, List.length_cons, m_set1_len l (k + 1) v]
theorem m_get_set1 : ∀ (ls : List mV) (k : Nat) (v : mV) (i : Nat), k < ls.length → m_get (m_set1 ls k v) i = if i = k then v else if i + 1 = k then m_kill (m_get ls i) else m_get ls i
  | [], k, v, i, h => absurd h (by simp)
  | a :: l, 0, v, i, h => by
    cases i with
    | zero => rfl
    | succ i => simp [m_set1, m_get]
  | [a], 1, v, i, h => absurd h (by simp)
  | a :: b :: l, 1, v, i, h => by
    match i with
    | 0 => rfl
    | 1 => rfl
    | i + 2 => simp [m_set1, m_get]
  | a :: l, k + 2, v, i, h => by
    cases i with
    | zero => simp [m_set1, m_get]
    | succ i =>
      show m_get (m_set1 l (k + 1) v) i = _
      rw [m_get_set1 l (k + 1) v i (by simp only [List.length_cons] at h; omega)]
      simp only [m_get]
      by_cases h1 : i = k + 1
      · simp [h1]
      · by_cases h2 : i + 1 = k + 1
        · simp [h1, h2]
        · simp [h1, h2, show ¬ i = k by omega]
theorem m_set2_len : ∀ (ls : List mV) (k : Nat) (v : mV), (m_set2 ls k v).length = ls.length
  | [], 0, _ => rfl
  | [], 1, _ => rfl
  | [], _ + 2, _ => rfl
  | [_], 0, _ => rfl
  | [_], 1, _ => rfl
  | _ :: _ :: _, 0, _ => rfl
  | [_, _], 1, _ => rfl
  | _ :: _ :: _ :: _, 1, _ => rfl
  | a :: l, k + 2, v => by rw [m_set2, List.length_cons, List.length_cons, m_set2_len l (k + 1) v]
theorem m_get_set2 : ∀ (ls : List mV) (k : Nat) (v : mV) (i : Nat), k + 1 < ls.length → m_get (m_set2 ls k v) i = if i = k then v else if i = k + 1 then (9, 0) else if i + 1 = k then m_kill (m_get ls i) else m_get ls i
  | [], k, v, i, h => absurd h (by simp)
  | [a], k, v, i, h => absurd h (by simp)
  | a :: b :: l, 0, v, i, h => by
    match i with
    | 0 => rfl
    | 1 => rfl
    | i + 2 => simp [m_set2, m_get]
  | [a, b], 1, v, i, h => absurd h (by simp)
  | a :: b :: c :: l, 1, v, i, h => by
    match i with
    | 0 => rfl
    | 1 => rfl
    | 2 => rfl
    | i + 3 => simp [m_set2, m_get]
  | a :: l, k + 2, v, i, h => by
    cases i with
    | zero => simp [m_set2, m_get]
    | succ i =>
      have e : m_set2 (a :: l) (k + 2) v = a :: m_set2 l (k + 1) v := by rw [m_set2]
      rw [e]
      show m_get (m_set2 l (k + 1) v) i = _
      rw [m_get_set2 l (k + 1) v i (by simp only [List.length_cons] at h; omega)]
      simp only [m_get]
      by_cases h1 : i = k + 1
      · simp [h1]
      · by_cases h2 : i = k + 2
        · simp [h2]
        · by_cases h3 : i + 1 = k + 1
          · simp [h1, h3]; omega
          · simp [h1, h2, h3, show ¬ i = k by omega]
theorem m_get_out : ∀ (ls : List mV) (i : Nat), ls.length ≤ i → m_get ls i = (9, 0)
  | [], _, _ => rfl
  | _ :: l, 0, h => absurd h (by simp)
  | _ :: l, i + 1, h => m_get_out l i (by simpa using h)
def mt_L (E : mE) (lsR : Array Slot) (nL : Nat) (ls : List mV) : Prop := lsR.size = nL ∧ ls.length = nL ∧ lv_wf lsR ∧ ∀ i, (m_get ls i).1 ≠ 9 → lsR[i]? = some (.val (mt_v E (m_get ls i)))
def mt_ls (E : mE) (ls : List mV) : List (Nat × Value) := (List.range ls.length).filterMap (fun i => if (m_get ls i).1 = 9 then none else some (i, mt_v E (m_get ls i)))
theorem mt_ls_mem {E : mE} {ls : List mV} {q : Nat × Value} : q ∈ mt_ls E ls ↔ (m_get ls q.1).1 ≠ 9 ∧ q.2 = mt_v E (m_get ls q.1) := by
  unfold mt_ls
  rw [List.mem_filterMap]
  constructor
  · rintro ⟨i, -, h⟩
    split at h
    · cases h
    · next n => cases h; exact ⟨n, rfl⟩
  · rintro ⟨h1, h2⟩
    refine ⟨q.1, List.mem_range.mpr ?_, ?_⟩
    · rcases Nat.lt_or_ge q.1 ls.length with z | z
      · exact z
      · exact absurd (by rw [m_get_out _ _ z]) h1
    · rw [if_neg h1, ← h2]
theorem mt_L.has {E : mE} {lsR : Array Slot} {nL : Nat} {ls : List mV} (h : mt_L E lsR nL ls) : lv_has lsR nL (mt_ls E ls) :=
  ⟨h.1, h.2.2.1, fun q hq => by obtain ⟨h1, h2⟩ := mt_ls_mem.mp hq; rw [h2]; exact h.2.2.2 _ h1⟩
theorem mt_cat (E : mE) (v : mV) : (mt_v E v).category = m_cat v := by
  obtain ⟨t, x⟩ := v
  match t with
  | 0 => rfl
  | 1 => rfl
  | 2 => cases x <;> rfl
  | 3 => rfl
  | 4 => rfl
  | _ + 5 => simp [mt_v, m_cat, Value.category]
theorem mt_L.set1 {E : mE} {lsR lsR' : Array Slot} {nL k : Nat} {ls : List mV} {v : mV} (h : mt_L E lsR nL ls) (hk : k < nL) (h' : lv_has lsR' nL ((k, mt_v E v) :: (mt_ls E ls).filter (fun q => !(q.1 == k) && !(q.1 + 1 == k && q.2.category == 2)))) : mt_L E lsR' nL (m_set1 ls k v) := by
  refine ⟨h'.1, by rw [m_set1_len]; exact h.2.1, h'.2.1, fun i hi => ?_⟩
  have hk' : k < ls.length := by rw [h.2.1]; exact hk
  rw [m_get_set1 _ _ _ _ hk'] at hi ⊢
  by_cases h1 : i = k
  · subst h1
    rw [if_pos rfl]
    exact h'.2.2 (i, mt_v E v) List.mem_cons_self
  · rw [if_neg h1] at hi ⊢
    have key : ∀ w : mV, w = m_get ls i → w.1 ≠ 9 → ¬ (i + 1 = k ∧ w.1 = 1) → lsR'[i]? = some (.val (mt_v E w)) := by
      intro w hw hw9 hn
      refine h'.2.2 (i, mt_v E w) (List.mem_cons_of_mem _ (List.mem_filter.mpr ⟨mt_ls_mem.mpr ⟨by rw [← hw]; exact hw9, by rw [hw]⟩, ?_⟩))
      have h3 : ¬ (i + 1 = k ∧ (mt_v E w).category = 2) := by
        rw [mt_cat]
        rintro ⟨a, b⟩
        refine hn ⟨a, ?_⟩
        unfold m_cat at b
        split at b
        · next q => exact q
        · cases b
      simp only [Bool.and_eq_true, Bool.not_eq_true', beq_eq_false_iff_ne, Bool.and_eq_false_imp, beq_iff_eq, ne_eq]
      exact ⟨h1, fun q1 q2 => h3 ⟨q1, q2⟩⟩
    by_cases h2 : i + 1 = k
    · rw [if_pos h2] at hi ⊢
      unfold m_kill at hi ⊢
      by_cases h4 : (m_get ls i).1 = 1
      · rw [if_pos h4] at hi
        exact absurd rfl hi
      · rw [if_neg h4] at hi ⊢
        exact key _ rfl hi (fun q => h4 q.2)
    · rw [if_neg h2] at hi ⊢
      exact key _ rfl hi (fun q => h2 q.1)
theorem mt_L.set2 {E : mE} {lsR lsR' : Array Slot} {nL k : Nat} {ls : List mV} {v : mV} (h : mt_L E lsR nL ls) (hk : k + 1 < nL) (h' : lv_has lsR' nL ((k, mt_v E v) :: (mt_ls E ls).filter (fun q => !(q.1 == k) && (!(q.1 == k + 1) && !(q.1 + 1 == k && q.2.category == 2))))) : mt_L E lsR' nL (m_set2 ls k v) := by
  refine ⟨h'.1, by rw [m_set2_len]; exact h.2.1, h'.2.1, fun i hi => ?_⟩
  have hk' : k + 1 < ls.length := by rw [h.2.1]; exact hk
  rw [m_get_set2 _ _ _ _ hk'] at hi ⊢
  by_cases h1 : i = k
  · subst h1
    rw [if_pos rfl]
    exact h'.2.2 (i, mt_v E v) List.mem_cons_self
  · rw [if_neg h1] at hi ⊢
    by_cases h5 : i = k + 1
    · rw [if_pos h5] at hi
      exact absurd rfl hi
    · rw [if_neg h5] at hi ⊢
      have key : ∀ w : mV, w = m_get ls i → w.1 ≠ 9 → ¬ (i + 1 = k ∧ w.1 = 1) → lsR'[i]? = some (.val (mt_v E w)) := by
        intro w hw hw9 hn
        refine h'.2.2 (i, mt_v E w) (List.mem_cons_of_mem _ (List.mem_filter.mpr ⟨mt_ls_mem.mpr ⟨by rw [← hw]; exact hw9, by rw [hw]⟩, ?_⟩))
        have h3 : ¬ (i + 1 = k ∧ (mt_v E w).category = 2) := by
          rw [mt_cat]
          rintro ⟨a, b⟩
          refine hn ⟨a, ?_⟩
          unfold m_cat at b
          split at b
          · next q => exact q
          · cases b
        simp only [Bool.and_eq_true, Bool.not_eq_true', beq_eq_false_iff_ne, Bool.and_eq_false_imp, beq_iff_eq, ne_eq]
        exact ⟨h1, h5, fun q1 q2 => h3 ⟨q1, q2⟩⟩
      by_cases h2 : i + 1 = k
      · rw [if_pos h2] at hi ⊢
        unfold m_kill at hi ⊢
        by_cases h4 : (m_get ls i).1 = 1
        · rw [if_pos h4] at hi
          exact absurd rfl hi
        · rw [if_neg h4] at hi ⊢
          exact key _ rfl hi (fun q => h4 q.2)
      · rw [if_neg h2] at hi ⊢
        exact key _ rfl hi (fun q => h2 q.1)
theorem mt_L.junk {E : mE} {lsR lsR' : Array Slot} {nL k q9 : Nat} {ls : List mV} (h : mt_L E lsR nL ls) (hk : k < nL) (h' : lv_has lsR' nL ((k, Value.ref q9) :: (mt_ls E ls).filter (fun q => !(q.1 == k) && !(q.1 + 1 == k && q.2.category == 2)))) : mt_L E lsR' nL (m_set1 ls k (9, 0)) := by
  refine ⟨h'.1, by rw [m_set1_len]; exact h.2.1, h'.2.1, fun i hi => ?_⟩
  have hk' : k < ls.length := by rw [h.2.1]; exact hk
  rw [m_get_set1 _ _ _ _ hk'] at hi ⊢
  by_cases h1 : i = k
  · rw [if_pos h1] at hi
    exact absurd rfl hi
  · rw [if_neg h1] at hi ⊢
    have key : ∀ w : mV, w = m_get ls i → w.1 ≠ 9 → ¬ (i + 1 = k ∧ w.1 = 1) → lsR'[i]? = some (.val (mt_v E w)) := by
      intro w hw hw9 hn
      refine h'.2.2 (i, mt_v E w) (List.mem_cons_of_mem _ (List.mem_filter.mpr ⟨mt_ls_mem.mpr ⟨by rw [← hw]; exact hw9, by rw [hw]⟩, ?_⟩))
      have h3 : ¬ (i + 1 = k ∧ (mt_v E w).category = 2) := by
        rw [mt_cat]
        rintro ⟨a, b⟩
        refine hn ⟨a, ?_⟩
        unfold m_cat at b
        split at b
        · next q => exact q
        · cases b
      simp only [Bool.and_eq_true, Bool.not_eq_true', beq_eq_false_iff_ne, Bool.and_eq_false_imp, beq_iff_eq, ne_eq]
      exact ⟨h1, fun q1 q2 => h3 ⟨q1, q2⟩⟩
    by_cases h2 : i + 1 = k
    · rw [if_pos h2] at hi ⊢
      unfold m_kill at hi ⊢
      by_cases h4 : (m_get ls i).1 = 1
      · rw [if_pos h4] at hi
        exact absurd rfl hi
      · rw [if_neg h4] at hi ⊢
        exact key _ rfl hi (fun q => h4 q.2)
    · rw [if_neg h2] at hi ⊢
      exact key _ rfl hi (fun q => h2 q.1)
-- entry
def mt_as (E : mE) (as : List mV) : List Value := as.map (mt_v E)
theorem mt_lay_len (E : mE) : ∀ as : List mV, (m_lay as).length = (lg_sl (mt_as E as)).length
  | [] => rfl
  | v :: l => by
    have ih := mt_lay_len E l
    simp only [m_lay, mt_as, List.map_cons, lg_sl, List.flatMap_cons, mt_cat, List.length_append]
    have e : (List.flatMap (fun v => if v.category = 2 then [Slot.val v, Slot.second] else [Slot.val v]) (List.map (mt_v E) l)).length = (m_lay l).length := ih.symm
    rw [e]
    unfold m_cat
    by_cases h : v.1 = 1
    · simp [h]; omega
    · simp [h]; omega
theorem m_get_app : ∀ (a b : List mV) (i : Nat), i < a.length → m_get (a ++ b) i = m_get a i
  | [], b, i, h => absurd h (by simp)
  | _ :: a, b, 0, h => rfl
  | _ :: a, b, i + 1, h => m_get_app a b i (by simpa using h)
theorem m_get_app2 : ∀ (a b : List mV) (i : Nat), a.length ≤ i → m_get (a ++ b) i = m_get b (i - a.length)
  | [], b, i, h => by simp
  | _ :: a, b, 0, h => absurd h (by simp)
  | _ :: a, b, i + 1, h => by
    show m_get (a ++ b) i = _
    rw [m_get_app2 a b i (by simpa using h)]
    simp
theorem m_get_rep : ∀ (n i : Nat), m_get (List.replicate n ((9, 0) : mV)) i = (9, 0)
  | 0, _ => rfl
  | n + 1, 0 => rfl
  | n + 1, i + 1 => by rw [List.replicate_succ]; exact m_get_rep n i
theorem mt_args (E : mE) : ∀ (as : List mV) (k i : Nat), (m_get (m_lay as) i).1 ≠ 9 → (k + i, mt_v E (m_get (m_lay as) i)) ∈ lv_args k (mt_as E as)
  | [], k, i, h => absurd rfl h
  | v :: l, k, i, h => by
    by_cases hv : v.1 = 1
    · have e : m_lay (v :: l) = v :: (9, 0) :: m_lay l := by simp [m_lay, hv]
      have e2 : (mt_v E v).category = 2 := by rw [mt_cat]; simp [m_cat, hv]
      rw [e] at h ⊢
      show _ ∈ (k, mt_v E v) :: lv_args (if (mt_v E v).category = 2 then k + 2 else k + 1) (mt_as E l)
      rw [if_pos e2]
      match i with
      | 0 => exact List.mem_cons_self
      | 1 => exact absurd rfl h
      | i + 2 =>
        have := mt_args E l (k + 2) i h
        rw [show k + (i + 2) = k + 2 + i by omega]
        exact List.mem_cons_of_mem _ this
    · have e : m_lay (v :: l) = v :: m_lay l := by simp [m_lay, hv]
      have e2 : ¬ (mt_v E v).category = 2 := by rw [mt_cat]; simp [m_cat, hv]
      rw [e] at h ⊢
      show _ ∈ (k, mt_v E v) :: lv_args (if (mt_v E v).category = 2 then k + 2 else k + 1) (mt_as E l)
      rw [if_neg e2]
      match i with
      | 0 => exact List.mem_cons_self
      | i + 1 =>
        have := mt_args E l (k + 1) i h
        rw [show k + (i + 1) = k + 1 + i by omega]
        exact List.mem_cons_of_mem _ this
theorem mt_entry {E : mE} {as : List mV} {n : Nat} {lsR : Array Slot} (hn : (m_lay as).length ≤ n) (h : lv_has lsR n (lv_args 0 (mt_as E as))) : mt_L E lsR n (m_ent n as) := by
  refine ⟨h.1, by simp [m_ent]; omega, h.2.1, fun i hi => ?_⟩
  unfold m_ent at hi ⊢
  rcases Nat.lt_or_ge i (m_lay as).length with z | z
  · rw [m_get_app _ _ _ z] at hi ⊢
    have := mt_args E as 0 i hi
    rw [Nat.zero_add] at this
    exact h.2.2 _ this
  · rw [m_get_app2 _ _ _ z, m_get_rep] at hi
    exact absurd rfl hi
