/-! THE REFERENCE: tests, far, order, walk -/
theorem cmp_lt (x y : Int64) : lg_cmp x y < 0 ↔ x < y := by
  unfold lg_cmp
  by_cases h1 : x > y
  · simp [h1, Int64.not_lt.mpr (Int64.le_of_lt h1)]
  · by_cases h2 : x = y
    · subst h2; simp
    · have h3 : x < y := by
        simp only [gt_iff_lt, Int64.lt_iff_toInt_lt] at h1 ⊢
        have h4 : x.toInt ≠ y.toInt := fun q => h2 (Int64.toInt_inj.mp q)
        omega
      simp [h1, h2, h3]
theorem cmp_gt (x y : Int64) : 0 < lg_cmp x y ↔ y < x := by
  unfold lg_cmp
  by_cases h1 : x > y
  · simp [h1, show y < x from h1]
  · by_cases h2 : x = y
    · subst h2; simp
    · simp [h1, h2, show ¬ y < x from h1]
theorem s_Min {d : Nat} {P : mm_O} {μ : mm_M} (a b c : Int64) : mm_run shM (d + 1) 82 [.long a, .long b, .long c] μ P = P (some (.int (if b ≤ a ∧ a ≤ c then 1 else 0))) μ := by
  rw [in_X7_in]
  by_cases h1 : a < b
  · have h3 : ¬ b ≤ a := Int64.not_le.mpr h1
    simp [qX7_in_0, qX7_in_1, qX7_in_2, qX7_in_3, qX7_in_6, qX7_in_7, qX7_in_9, qX7_in_10, qX7_in_13, qX7_in_14, qX7_in_17, qX7_in_18, cmp_lt, cmp_gt, h1, h3]
  · have h3 : b ≤ a := Int64.not_lt.mp h1
    by_cases h2 : c < a
    · simp [qX7_in_0, qX7_in_1, qX7_in_2, qX7_in_3, qX7_in_6, qX7_in_7, qX7_in_9, qX7_in_10, qX7_in_13, qX7_in_14, qX7_in_17, qX7_in_18, cmp_lt, cmp_gt, h1, h2, Int64.not_le.mpr h2]
    · simp [qX7_in_0, qX7_in_1, qX7_in_2, qX7_in_3, qX7_in_6, qX7_in_7, qX7_in_9, qX7_in_10, qX7_in_13, qX7_in_14, qX7_in_17, qX7_in_18, cmp_lt, cmp_gt, h1, h2, h3, Int64.not_lt.mp h2]
theorem i2l_le (x y : Int32) : x.toInt64 ≤ y.toInt64 ↔ x ≤ y := by
  rw [Int64.le_iff_toInt_le, Int32.le_iff_toInt_le, Int32.toInt_toInt64, Int32.toInt_toInt64]
theorem nI_pre {n : Nat} (hn : n < 2 ^ 31) : (nI n - 1).toInt = (n : Int) - 1 := by
  cases n with
  | zero => decide
  | succ n =>
    rw [nI_pred, nI_toInt (by omega)]
    omega
theorem in_has {n : Nat} (hn : n < 2 ^ 31) (i : Int32) : (if (0 : Int64) ≤ i.toInt64 ∧ i.toInt64 ≤ (nI n - 1).toInt64 then (1 : Int32) else 0) = hasF (nI n) i := by
  have e0 : (0 : Int64) ≤ i.toInt64 ↔ ¬ i < 0 := by
    rw [show (0 : Int64) = (0 : Int32).toInt64 from rfl, i2l_le, Int32.not_lt]
  have e1 : i.toInt64 ≤ (nI n - 1).toInt64 ↔ ¬ nI n ≤ i := by
    rw [i2l_le, Int32.le_iff_toInt_le, Int32.le_iff_toInt_le, nI_pre hn, nI_toInt hn]
    omega
  unfold hasF
  simp only [e0, e1]
  by_cases h0 : i < 0 <;> by_cases h1 : nI n ≤ i <;> simp [h0, h1]
theorem s_MisLetter {d n : Nat} {P : mm_O} {μ : mm_M} (hn : n < 2 ^ 31) (hc : μ.1 0 3 = nI n) (i : Int32) : mm_run shM (d + 2) 86 [.ref 0, .int i] μ P = P (some (.int (hasF (nI n) i))) μ := by
  rw [in_X7_isLetter]
  simp only [qX7_isLetter_0, qX7_isLetter_1, qX7_isLetter_2, qX7_isLetter_3, qX7_isLetter_4, qX7_isLetter_7, qX7_isLetter_8, qX7_isLetter_9, qX7_isLetter_10, qX7_isLetter_13, hc, s_Min, Option.toList, List.cons_append, List.nil_append]
  rw [in_has hn]
  have hz : hasF (nI n) i = 0 ∨ hasF (nI n) i = 1 := by unfold hasF; split <;> first | exact Or.inl rfl | (split <;> first | exact Or.inl rfl | exact Or.inr rfl)
  simp [hz]
theorem s_MisPlace {d n : Nat} {P : mm_O} {μ : mm_M} (hn : n < 2 ^ 31) (hc : μ.1 0 0 = nI n) (i : Int32) : mm_run shM (d + 2) 85 [.ref 0, .int i] μ P = P (some (.int (hasF (nI n) i))) μ := by
  rw [in_X7_isPlace]
  simp only [qX7_isPlace_0, qX7_isPlace_1, qX7_isPlace_2, qX7_isPlace_3, qX7_isPlace_4, qX7_isPlace_7, qX7_isPlace_8, qX7_isPlace_9, qX7_isPlace_10, qX7_isPlace_13, hc, s_Min, Option.toList, List.cons_append, List.nil_append]
  rw [in_has hn]
  have hz : hasF (nI n) i = 0 ∨ hasF (nI n) i = 1 := by unfold hasF; split <;> first | exact Or.inl rfl | (split <;> first | exact Or.inl rfl | exact Or.inr rfl)
  simp [hz]
theorem s_Mhas {d : Nat} {P : mm_O} {μ : mm_M} {x : Int32} {l : Nat} (hl : l < 31) : mm_run shM (d + 1) 83 [.int x, .int (nI l)] μ P = P (some (.int (if bt x l = true then 1 else 0))) μ := by
  rw [in_X7_has]
  have h0 := m_bit (x := x) hl
  by_cases h : bt x l = true
  · have h1 : (x >>> (nI l &&& 31)) &&& 1 = 1 := by
      refine b_ext fun i hi => ?_
      rw [b_and, m_one i hi, b_sshr l (by omega) x hi]
      by_cases h2 : i = 0
      · subst h2; simp [show l < 32 by omega, h]
      · simp [h2]
    simp [qX7_has_0, qX7_has_1, qX7_has_2, qX7_has_3, qX7_has_4, qX7_has_5, qX7_has_6, qX7_has_9, qX7_has_10, qX7_has_13, qX7_has_14, h1, h]
  · have h1 : (x >>> (nI l &&& 31)) &&& 1 = 0 := h0.mpr (by simpa using h)
    simp [qX7_has_0, qX7_has_1, qX7_has_2, qX7_has_3, qX7_has_4, qX7_has_5, qX7_has_6, qX7_has_9, qX7_has_10, qX7_has_13, qX7_has_14, h1, h]
theorem s_Msize {d : Nat} {P : mm_O} {μ : mm_M} (x : Int32) : mm_run shM (d + 1) 84 [.int x] μ P = P (some (.int (mm_abs x))) μ := by
  rw [in_X7_size]
  unfold mm_abs
  by_cases h : 0 ≤ x <;> simp [qX7_size_0, qX7_size_1, qX7_size_4, qX7_size_5, qX7_size_6, qX7_size_9, qX7_size_10, h]
theorem s_MfarOf {d p q : Nat} {P : mm_O} {μ : mm_M} (hp : p < 7) (hq : q < 7) : mm_run shM (d + 2) 99 [.ref 0, .int (nI p), .int (nI q)] μ P = P (some (.int (dstF (μ.1 1) (μ.1 2) p q))) μ := by
  rw [in_X7_farOf]
  simp only [qX7_farOf_0, qX7_farOf_1, qX7_farOf_4, qX7_farOf_5, qX7_farOf_6, qX7_farOf_7, qX7_farOf_10, qX7_farOf_11, qX7_farOf_12, qX7_farOf_13, qX7_farOf_16, qX7_farOf_17, qX7_farOf_20, qX7_farOf_21, qX7_farOf_22, qX7_farOf_23, qX7_farOf_26, qX7_farOf_27, qX7_farOf_28, qX7_farOf_29, qX7_farOf_32, qX7_farOf_33, vp_in_nI hp (show 7 < 2 ^ 31 by decide), vp_in_nI hq (show 7 < 2 ^ 31 by decide), nI_clamp (show p < 2 ^ 31 by omega), nI_clamp (show q < 2 ^ 31 by omega), s_Msize, true_and, Option.toList, List.cons_append, List.nil_append]
  rfl
def hvM (μ : mm_M) (l : Nat) : Int32 := μ.1 4 l + μ.1 7 l
def shF (μ : mm_M) (n : Nat) : mm_M := mm_set μ 16 (fun l => if l < n then hvM μ l else μ.1 16 l)
theorem s_MsetHeavy_loop {d n : Nat} {P : mm_O} (hn : n ≤ 7) : ∀ (j k : Nat) (μ : mm_M), j + k = n → μ.1 0 3 = nI n → mm_at shM d 101 [] P 2 [.ref 0, .int (nI k)] [] μ = P none (mm_set μ 16 (fun l => if k ≤ l ∧ l < n then hvM μ l else μ.1 16 l)) := by
  intro j
  induction j with
  | zero =>
    intro k μ hk hc
    have e : (fun l => if k ≤ l ∧ l < n then hvM μ l else μ.1 16 l) = μ.1 16 := by
      funext l
      rw [if_neg (by omega)]
    rw [e, mm_set_self]
    have h1 : nI n ≤ nI k := nI_le (by omega) (by omega)
    simp [qX7_setHeavy_0, qX7_setHeavy_1, qX7_setHeavy_2, qX7_setHeavy_3, qX7_setHeavy_4, qX7_setHeavy_7, qX7_setHeavy_10, qX7_setHeavy_11, qX7_setHeavy_14, qX7_setHeavy_15, qX7_setHeavy_16, qX7_setHeavy_19, qX7_setHeavy_20, qX7_setHeavy_21, qX7_setHeavy_22, qX7_setHeavy_25, qX7_setHeavy_26, qX7_setHeavy_27, qX7_setHeavy_28, qX7_setHeavy_29, qX7_setHeavy_32, qX7_setHeavy_35, hc, h1]
  | succ j ih =>
    intro k μ hk hc
    have h1 : ¬ nI n ≤ nI k := nI_ge (by omega) (by omega)
    have h2 : vp_in (nI k) 7 := vp_in_nI (by omega) (by decide)
    have h3 : (nI k).toNatClampNeg = k := nI_clamp (by omega)
    rw [qX7_setHeavy_2]
    simp only [qX7_setHeavy_0, qX7_setHeavy_1, qX7_setHeavy_3, qX7_setHeavy_4, qX7_setHeavy_7, qX7_setHeavy_10, qX7_setHeavy_11, qX7_setHeavy_14, qX7_setHeavy_15, qX7_setHeavy_16, qX7_setHeavy_19, qX7_setHeavy_20, qX7_setHeavy_21, qX7_setHeavy_22, qX7_setHeavy_25, qX7_setHeavy_26, qX7_setHeavy_27, qX7_setHeavy_28, qX7_setHeavy_29, qX7_setHeavy_32, qX7_setHeavy_35, hc, h1, h2, h3, if_false, true_and, mm_sti_set, nI_1]
    rw [ih (k + 1) _ (by omega) (by simp [mm_set_1, hc]), mm_set_set]
    congr 2
    funext l
    rw [mm_set_same, upd_1]
    by_cases hl : l = k
    · subst hl
      rw [if_neg (by omega), if_pos rfl, if_pos (by omega)]
      rfl
    · by_cases h4 : k ≤ l ∧ l < n
      · rw [if_pos (by omega), if_pos h4]
        simp [hvM, mm_set_1]
      · rw [if_neg (by omega), if_neg hl, if_neg h4]
theorem s_MsetHeavy {d n : Nat} {P : mm_O} {μ : mm_M} (hn : n ≤ 7) (hc : μ.1 0 3 = nI n) : mm_run shM (d + 1) 101 [.ref 0] μ P = P none (shF μ n) := by
  rw [in_X7_setHeavy]
  simp only [qX7_setHeavy_0, qX7_setHeavy_1, qX7_setHeavy_3, qX7_setHeavy_4, qX7_setHeavy_7, qX7_setHeavy_10, qX7_setHeavy_11, qX7_setHeavy_14, qX7_setHeavy_15, qX7_setHeavy_16, qX7_setHeavy_19, qX7_setHeavy_20, qX7_setHeavy_21, qX7_setHeavy_22, qX7_setHeavy_25, qX7_setHeavy_26, qX7_setHeavy_27, qX7_setHeavy_28, qX7_setHeavy_29, qX7_setHeavy_32, qX7_setHeavy_35]
  have e := s_MsetHeavy_loop (d := d) (P := P) hn n 0 μ (by omega) hc
  simp only [Nat.zero_le, true_and] at e
  exact e
theorem nI_neg {q : Nat} (h : q < 2 ^ 31) : ¬ nI q < 0 := nI_pos h
theorem s_MnextOf_loop {d n : Nat} {P : mm_O} {μ : mm_M} {x : Int32} {tk : Nat → Bool} {bb : Bool} (hn : n ≤ 7) (hc : μ.1 0 3 = nI n) (hx : ∀ l, l < n → bt x l = !tk l) : ∀ (j l : Nat) (a5 : Value), j + l = n → mm_at shM (d + 1) 100 [] P 5 [.ref 0, .int x, .int (bI bb), .int (pkI (pick (μ.1 16) tk bb l)), .int (nI l), a5] [] μ = P (some (.int (pkI (pick (μ.1 16) tk bb n)))) μ := by
  intro j
  induction j with
  | zero =>
    intro l a5 hl
    have hl : l = n := by omega
    subst hl
    simp [qX7_nextOf_0, qX7_nextOf_1, qX7_nextOf_2, qX7_nextOf_3, qX7_nextOf_5, qX7_nextOf_7, qX7_nextOf_8, qX7_nextOf_11, qX7_nextOf_14, qX7_nextOf_15, qX7_nextOf_17, qX7_nextOf_20, qX7_nextOf_23, qX7_nextOf_24, qX7_nextOf_27, qX7_nextOf_28, qX7_nextOf_31, qX7_nextOf_32, qX7_nextOf_35, qX7_nextOf_37, qX7_nextOf_38, qX7_nextOf_39, qX7_nextOf_42, qX7_nextOf_43, qX7_nextOf_44, qX7_nextOf_47, qX7_nextOf_50, qX7_nextOf_51, qX7_nextOf_54, qX7_nextOf_56, qX7_nextOf_57, qX7_nextOf_58, qX7_nextOf_61, qX7_nextOf_62, qX7_nextOf_63, qX7_nextOf_66, qX7_nextOf_67, qX7_nextOf_70, qX7_nextOf_71, qX7_nextOf_73, qX7_nextOf_75, qX7_nextOf_78, qX7_nextOf_80, qX7_nextOf_83, qX7_nextOf_84, qX7_nextOf_85, qX7_nextOf_88, qX7_nextOf_91, qX7_nextOf_92, hc]
  | succ j ih =>
    intro l a5 hl
    have h1 : ¬ nI n ≤ nI l := nI_ge (by omega) (by omega)
    have h2 : vp_in (nI l) 7 := vp_in_nI (by omega) (by decide)
    have h3 : (nI l).toNatClampNeg = l := nI_clamp (by omega)
    have hb := hx l (by omega)
    rw [qX7_nextOf_5]
    cases ht : tk l with
    | true =>
      rw [ht] at hb
      simp only [qX7_nextOf_0, qX7_nextOf_1, qX7_nextOf_2, qX7_nextOf_3, qX7_nextOf_7, qX7_nextOf_8, qX7_nextOf_11, qX7_nextOf_14, qX7_nextOf_15, qX7_nextOf_17, qX7_nextOf_20, qX7_nextOf_23, qX7_nextOf_24, qX7_nextOf_27, qX7_nextOf_28, qX7_nextOf_31, qX7_nextOf_32, qX7_nextOf_35, qX7_nextOf_37, qX7_nextOf_38, qX7_nextOf_39, qX7_nextOf_42, qX7_nextOf_43, qX7_nextOf_44, qX7_nextOf_47, qX7_nextOf_50, qX7_nextOf_51, qX7_nextOf_54, qX7_nextOf_56, qX7_nextOf_57, qX7_nextOf_58, qX7_nextOf_61, qX7_nextOf_62, qX7_nextOf_63, qX7_nextOf_66, qX7_nextOf_67, qX7_nextOf_70, qX7_nextOf_71, qX7_nextOf_73, qX7_nextOf_75, qX7_nextOf_78, qX7_nextOf_80, qX7_nextOf_83, qX7_nextOf_84, qX7_nextOf_85, qX7_nextOf_88, qX7_nextOf_91, qX7_nextOf_92, hc, h1, s_Mhas (show l < 31 by omega), hb, if_false, Option.toList, List.cons_append, List.nil_append, nI_1, Bool.not_true, Bool.false_eq_true, if_true]
      have e := ih (l + 1) a5 (by omega)
      rw [pick_tk ht] at e
      exact e
    | false =>
      rw [ht] at hb
      cases hp : pick (μ.1 16) tk bb l with
      | none =>
        simp only [qX7_nextOf_0, qX7_nextOf_1, qX7_nextOf_2, qX7_nextOf_3, qX7_nextOf_7, qX7_nextOf_8, qX7_nextOf_11, qX7_nextOf_14, qX7_nextOf_15, qX7_nextOf_17, qX7_nextOf_20, qX7_nextOf_23, qX7_nextOf_24, qX7_nextOf_27, qX7_nextOf_28, qX7_nextOf_31, qX7_nextOf_32, qX7_nextOf_35, qX7_nextOf_37, qX7_nextOf_38, qX7_nextOf_39, qX7_nextOf_42, qX7_nextOf_43, qX7_nextOf_44, qX7_nextOf_47, qX7_nextOf_50, qX7_nextOf_51, qX7_nextOf_54, qX7_nextOf_56, qX7_nextOf_57, qX7_nextOf_58, qX7_nextOf_61, qX7_nextOf_62, qX7_nextOf_63, qX7_nextOf_66, qX7_nextOf_67, qX7_nextOf_70, qX7_nextOf_71, qX7_nextOf_73, qX7_nextOf_75, qX7_nextOf_78, qX7_nextOf_80, qX7_nextOf_83, qX7_nextOf_84, qX7_nextOf_85, qX7_nextOf_88, qX7_nextOf_91, qX7_nextOf_92, hc, h1, s_Mhas (show l < 31 by omega), hb, if_false, Option.toList, List.cons_append, List.nil_append, nI_1, Bool.not_false, if_true, pkI, show ¬ (1 : Int32) = 0 by decide, show (-1 : Int32) < 0 by decide]
        have e := ih (l + 1) (.int 1) (by omega)
        rw [pick_n ht hp] at e
        exact e
      | some q =>
        have hq := pick_some hp
        have h4 : vp_in (nI q) 7 := vp_in_nI (by omega) (by decide)
        have h5 : (nI q).toNatClampNeg = q := nI_clamp (by omega)
        have h6 := nI_neg (q := q) (by omega)
        cases bb with
        | true =>
          by_cases hcm : μ.1 16 l ≤ μ.1 16 q
          · have e := ih (l + 1) (.int 0) (by omega)
            rw [pick_s ht hp, if_neg (by simp [betF, Int32.not_lt.mpr hcm])] at e
            simp only [qX7_nextOf_0, qX7_nextOf_1, qX7_nextOf_2, qX7_nextOf_3, qX7_nextOf_7, qX7_nextOf_8, qX7_nextOf_11, qX7_nextOf_14, qX7_nextOf_15, qX7_nextOf_17, qX7_nextOf_20, qX7_nextOf_23, qX7_nextOf_24, qX7_nextOf_27, qX7_nextOf_28, qX7_nextOf_31, qX7_nextOf_32, qX7_nextOf_35, qX7_nextOf_37, qX7_nextOf_38, qX7_nextOf_39, qX7_nextOf_42, qX7_nextOf_43, qX7_nextOf_44, qX7_nextOf_47, qX7_nextOf_50, qX7_nextOf_51, qX7_nextOf_54, qX7_nextOf_56, qX7_nextOf_57, qX7_nextOf_58, qX7_nextOf_61, qX7_nextOf_62, qX7_nextOf_63, qX7_nextOf_66, qX7_nextOf_67, qX7_nextOf_70, qX7_nextOf_71, qX7_nextOf_73, qX7_nextOf_75, qX7_nextOf_78, qX7_nextOf_80, qX7_nextOf_83, qX7_nextOf_84, qX7_nextOf_85, qX7_nextOf_88, qX7_nextOf_91, qX7_nextOf_92, hc, h1, h2, h3, h4, h5, h6, s_Mhas (show l < 31 by omega), hb, if_false, Option.toList, List.cons_append, List.nil_append, nI_1, Bool.not_false, if_true, pkI, bI, hcm, true_and, show ¬ (1 : Int32) = 0 by decide]
            exact e
          · have e := ih (l + 1) (.int 1) (by omega)
            rw [pick_s ht hp, if_pos (by simp [betF, Int32.not_le.mp hcm])] at e
            simp only [qX7_nextOf_0, qX7_nextOf_1, qX7_nextOf_2, qX7_nextOf_3, qX7_nextOf_7, qX7_nextOf_8, qX7_nextOf_11, qX7_nextOf_14, qX7_nextOf_15, qX7_nextOf_17, qX7_nextOf_20, qX7_nextOf_23, qX7_nextOf_24, qX7_nextOf_27, qX7_nextOf_28, qX7_nextOf_31, qX7_nextOf_32, qX7_nextOf_35, qX7_nextOf_37, qX7_nextOf_38, qX7_nextOf_39, qX7_nextOf_42, qX7_nextOf_43, qX7_nextOf_44, qX7_nextOf_47, qX7_nextOf_50, qX7_nextOf_51, qX7_nextOf_54, qX7_nextOf_56, qX7_nextOf_57, qX7_nextOf_58, qX7_nextOf_61, qX7_nextOf_62, qX7_nextOf_63, qX7_nextOf_66, qX7_nextOf_67, qX7_nextOf_70, qX7_nextOf_71, qX7_nextOf_73, qX7_nextOf_75, qX7_nextOf_78, qX7_nextOf_80, qX7_nextOf_83, qX7_nextOf_84, qX7_nextOf_85, qX7_nextOf_88, qX7_nextOf_91, qX7_nextOf_92, hc, h1, h2, h3, h4, h5, h6, s_Mhas (show l < 31 by omega), hb, if_false, Option.toList, List.cons_append, List.nil_append, nI_1, Bool.not_false, if_true, pkI, bI, hcm, true_and, show ¬ (1 : Int32) = 0 by decide]
            exact e
        | false =>
          by_cases hcm : μ.1 16 q ≤ μ.1 16 l
          · have e := ih (l + 1) (.int 0) (by omega)
            rw [pick_s ht hp, if_neg (by simp [betF, Int32.not_lt.mpr hcm])] at e
            simp only [qX7_nextOf_0, qX7_nextOf_1, qX7_nextOf_2, qX7_nextOf_3, qX7_nextOf_7, qX7_nextOf_8, qX7_nextOf_11, qX7_nextOf_14, qX7_nextOf_15, qX7_nextOf_17, qX7_nextOf_20, qX7_nextOf_23, qX7_nextOf_24, qX7_nextOf_27, qX7_nextOf_28, qX7_nextOf_31, qX7_nextOf_32, qX7_nextOf_35, qX7_nextOf_37, qX7_nextOf_38, qX7_nextOf_39, qX7_nextOf_42, qX7_nextOf_43, qX7_nextOf_44, qX7_nextOf_47, qX7_nextOf_50, qX7_nextOf_51, qX7_nextOf_54, qX7_nextOf_56, qX7_nextOf_57, qX7_nextOf_58, qX7_nextOf_61, qX7_nextOf_62, qX7_nextOf_63, qX7_nextOf_66, qX7_nextOf_67, qX7_nextOf_70, qX7_nextOf_71, qX7_nextOf_73, qX7_nextOf_75, qX7_nextOf_78, qX7_nextOf_80, qX7_nextOf_83, qX7_nextOf_84, qX7_nextOf_85, qX7_nextOf_88, qX7_nextOf_91, qX7_nextOf_92, hc, h1, h2, h3, h4, h5, h6, s_Mhas (show l < 31 by omega), hb, if_false, Option.toList, List.cons_append, List.nil_append, nI_1, Bool.not_false, if_true, pkI, bI, hcm, true_and, show ¬ (1 : Int32) = 0 by decide, Bool.false_eq_true]
            exact e
          · have e := ih (l + 1) (.int 1) (by omega)
            rw [pick_s ht hp, if_pos (by simp [betF, Int32.not_le.mp hcm])] at e
            simp only [qX7_nextOf_0, qX7_nextOf_1, qX7_nextOf_2, qX7_nextOf_3, qX7_nextOf_7, qX7_nextOf_8, qX7_nextOf_11, qX7_nextOf_14, qX7_nextOf_15, qX7_nextOf_17, qX7_nextOf_20, qX7_nextOf_23, qX7_nextOf_24, qX7_nextOf_27, qX7_nextOf_28, qX7_nextOf_31, qX7_nextOf_32, qX7_nextOf_35, qX7_nextOf_37, qX7_nextOf_38, qX7_nextOf_39, qX7_nextOf_42, qX7_nextOf_43, qX7_nextOf_44, qX7_nextOf_47, qX7_nextOf_50, qX7_nextOf_51, qX7_nextOf_54, qX7_nextOf_56, qX7_nextOf_57, qX7_nextOf_58, qX7_nextOf_61, qX7_nextOf_62, qX7_nextOf_63, qX7_nextOf_66, qX7_nextOf_67, qX7_nextOf_70, qX7_nextOf_71, qX7_nextOf_73, qX7_nextOf_75, qX7_nextOf_78, qX7_nextOf_80, qX7_nextOf_83, qX7_nextOf_84, qX7_nextOf_85, qX7_nextOf_88, qX7_nextOf_91, qX7_nextOf_92, hc, h1, h2, h3, h4, h5, h6, s_Mhas (show l < 31 by omega), hb, if_false, Option.toList, List.cons_append, List.nil_append, nI_1, Bool.not_false, if_true, pkI, bI, hcm, true_and, show ¬ (1 : Int32) = 0 by decide, Bool.false_eq_true]
            exact e
theorem s_MnextOf {d n : Nat} {P : mm_O} {μ : mm_M} {x : Int32} {tk : Nat → Bool} {bb : Bool} (hn : n ≤ 7) (hc : μ.1 0 3 = nI n) (hx : ∀ l, l < n → bt x l = !tk l) : mm_run shM (d + 2) 100 [.ref 0, .int x, .int (bI bb)] μ P = P (some (.int (pkI (pick (μ.1 16) tk bb n)))) μ := by
  rw [in_X7_nextOf]
  simp only [qX7_nextOf_0, qX7_nextOf_1, qX7_nextOf_2, qX7_nextOf_3, qX7_nextOf_7, qX7_nextOf_8, qX7_nextOf_11, qX7_nextOf_14, qX7_nextOf_15, qX7_nextOf_17, qX7_nextOf_20, qX7_nextOf_23, qX7_nextOf_24, qX7_nextOf_27, qX7_nextOf_28, qX7_nextOf_31, qX7_nextOf_32, qX7_nextOf_35, qX7_nextOf_37, qX7_nextOf_38, qX7_nextOf_39, qX7_nextOf_42, qX7_nextOf_43, qX7_nextOf_44, qX7_nextOf_47, qX7_nextOf_50, qX7_nextOf_51, qX7_nextOf_54, qX7_nextOf_56, qX7_nextOf_57, qX7_nextOf_58, qX7_nextOf_61, qX7_nextOf_62, qX7_nextOf_63, qX7_nextOf_66, qX7_nextOf_67, qX7_nextOf_70, qX7_nextOf_71, qX7_nextOf_73, qX7_nextOf_75, qX7_nextOf_78, qX7_nextOf_80, qX7_nextOf_83, qX7_nextOf_84, qX7_nextOf_85, qX7_nextOf_88, qX7_nextOf_91, qX7_nextOf_92]
  exact s_MnextOf_loop hn hc hx n 0 .null (by omega)
