/-! THE REFERENCE: rounds, rest -/
theorem abM_of {μ ν : mm_M} {n : Nat} {c : Int32} (e : ∀ k, 1 ≤ k ∧ k < 7 → ν.1 k = μ.1 k) (e10 : ν.1 0 10 = μ.1 0 10) : abM c ν n = abM c μ n := by
  funext s l
  unfold abM cmM
  rw [e10, e 1 (by omega), e 2 (by omega), e 3 (by omega), e 4 (by omega), e 5 (by omega), e 6 (by omega)]
theorem okM_of {μ ν : mm_M} {n : Nat} (h : okM μ n) (e3 : ν.1 3 = μ.1 3) (e0 : ν.1 0 3 = μ.1 0 3) : okM ν n := by
  unfold okM
  rw [e3, e0]
  exact h
theorem Mround_loop {μ : mm_M} {n : Nat} {s : Nat → Int32} (hT : okM μ n) : ∀ (j l : Nat) (ν : mm_M) (a3 : Value), j + l = n → (∀ k, k ≠ 7 → k ≠ 15 → k ≠ 16 → k ≠ 17 → ν.1 k = μ.1 k) → ν.1 7 = rdG (abM (μ.1 0 9) μ n) s l → ∃ ν' : mm_M, (∀ k, k ≠ 7 → k ≠ 15 → k ≠ 16 → k ≠ 17 → ν'.1 k = μ.1 k) ∧ ν'.1 7 = rdG (abM (μ.1 0 9) μ n) s n ∧ ∀ (d : Nat) (P : mm_O), mm_at shM (d + 6) 128 [] P 4 [.ref 0, .int (bI (chG (abM (μ.1 0 9) μ n) s l)), .int (nI l), a3] [] ν = P (some (.int (bI (chG (abM (μ.1 0 9) μ n) s n)))) ν' := by
  have hn := hT.2.1
  intro j
  induction j with
  | zero =>
    intro l ν a3 hl k1 k2
    have hl : l = n := by omega
    subst hl
    refine ⟨ν, k1, k2, fun d P => ?_⟩
    have t3 : ν.1 0 3 = nI l := by rw [k1 0 (by decide) (by decide) (by decide) (by decide)]; exact hT.1
    rw [qX7_roundChanges_4]
    simp only [qX7_roundChanges_0, qX7_roundChanges_1, qX7_roundChanges_2, qX7_roundChanges_3, qX7_roundChanges_5, qX7_roundChanges_6, qX7_roundChanges_9, qX7_roundChanges_12, qX7_roundChanges_13, qX7_roundChanges_14, qX7_roundChanges_17, qX7_roundChanges_18, qX7_roundChanges_19, qX7_roundChanges_22, qX7_roundChanges_23, qX7_roundChanges_24, qX7_roundChanges_27, qX7_roundChanges_28, qX7_roundChanges_29, qX7_roundChanges_32, qX7_roundChanges_33, qX7_roundChanges_36, qX7_roundChanges_37, qX7_roundChanges_38, qX7_roundChanges_39, qX7_roundChanges_42, qX7_roundChanges_43, qX7_roundChanges_44, qX7_roundChanges_45, qX7_roundChanges_48, qX7_roundChanges_51, qX7_roundChanges_52, t3, show nI l ≤ nI l from Int32.le_refl _, if_true]
    cases chG (abM (μ.1 0 9) μ l) s l <;> simp [bI]
  | succ j ih =>
    intro l ν a3 hl k1 k2
    have hl7 : l < 7 := by omega
    have h1 : ¬ nI n ≤ nI l := nI_ge (by omega) (by omega)
    have h2 : vp_in (nI l) 7 := vp_in_nI (by omega) (by decide)
    have h3 : (nI l).toNatClampNeg = l := nI_clamp (by omega)
    have t3 : ν.1 0 3 = nI n := by rw [k1 0 (by decide) (by decide) (by decide) (by decide)]; exact hT.1
    have hA : abM (ν.1 0 9) ν n = abM (μ.1 0 9) μ n := by
      rw [k1 0 (by decide) (by decide) (by decide) (by decide)]
      exact abM_of (fun k hk => k1 k (by omega) (by omega) (by omega) (by omega)) (by rw [k1 0 (by decide) (by decide) (by decide) (by decide)])
    obtain ⟨ν1, i1, i2⟩ := s_ManswerOf (μ := ν) (n := n) (l := l) (okM_of hT (k1 3 (by decide) (by decide) (by decide) (by decide)) (by rw [k1 0 (by decide) (by decide) (by decide) (by decide)])) (by omega)
    rw [hA, k2] at i2
    generalize hA2 : abM (μ.1 0 9) μ n = A at *
    have e0 : ν1.1 7 = rdG A s l := by rw [i1 7 (by decide) (by decide) (by decide), k2]
    have e1 : rdG A s l l = s l := rdG_o (Nat.le_refl _)
    obtain ⟨ν', j1, j2, j3⟩ := ih (l + 1) (mm_set ν1 7 (rdG A s (l + 1))) (.int (nI (A (rdG A s l) l))) (by omega) (fun k a b c d => by rw [mm_set_ne _ _ a, i1 k b c d]; exact k1 k a b c d) (mm_set_same _ _ _)
    refine ⟨ν', j1, j2, fun d P => ?_⟩
    rw [← j3 d P, qX7_roundChanges_4]
    simp only [qX7_roundChanges_0, qX7_roundChanges_1, qX7_roundChanges_2, qX7_roundChanges_3, qX7_roundChanges_5, qX7_roundChanges_6, qX7_roundChanges_9, qX7_roundChanges_12, qX7_roundChanges_13, qX7_roundChanges_14, qX7_roundChanges_17, qX7_roundChanges_18, qX7_roundChanges_19, qX7_roundChanges_22, qX7_roundChanges_23, qX7_roundChanges_24, qX7_roundChanges_27, qX7_roundChanges_28, qX7_roundChanges_29, qX7_roundChanges_32, qX7_roundChanges_33, qX7_roundChanges_36, qX7_roundChanges_37, qX7_roundChanges_38, qX7_roundChanges_39, qX7_roundChanges_42, qX7_roundChanges_43, qX7_roundChanges_44, qX7_roundChanges_45, qX7_roundChanges_48, qX7_roundChanges_51, qX7_roundChanges_52, t3, h1, if_false, i2, Option.toList, List.cons_append, List.nil_append]
    cases hch : chG A s l with
    | true =>
      simp only [chG, hch, Bool.true_or, bI, if_true, show ¬ (1 : Int32) = 0 by decide, if_false, qX7_roundChanges_0, qX7_roundChanges_1, qX7_roundChanges_2, qX7_roundChanges_3, qX7_roundChanges_5, qX7_roundChanges_6, qX7_roundChanges_9, qX7_roundChanges_12, qX7_roundChanges_13, qX7_roundChanges_14, qX7_roundChanges_17, qX7_roundChanges_18, qX7_roundChanges_19, qX7_roundChanges_22, qX7_roundChanges_23, qX7_roundChanges_24, qX7_roundChanges_27, qX7_roundChanges_28, qX7_roundChanges_29, qX7_roundChanges_32, qX7_roundChanges_33, qX7_roundChanges_36, qX7_roundChanges_37, qX7_roundChanges_38, qX7_roundChanges_39, qX7_roundChanges_42, qX7_roundChanges_43, qX7_roundChanges_44, qX7_roundChanges_45, qX7_roundChanges_48, qX7_roundChanges_51, qX7_roundChanges_52, h2, h3, e0, mm_sti_set, rdG, nI_1, or_true, true_and]
    | false =>
      simp only [chG, hch, Bool.false_or, bI, if_true, Bool.false_eq_true, if_false, qX7_roundChanges_0, qX7_roundChanges_1, qX7_roundChanges_2, qX7_roundChanges_3, qX7_roundChanges_5, qX7_roundChanges_6, qX7_roundChanges_9, qX7_roundChanges_12, qX7_roundChanges_13, qX7_roundChanges_14, qX7_roundChanges_17, qX7_roundChanges_18, qX7_roundChanges_19, qX7_roundChanges_22, qX7_roundChanges_23, qX7_roundChanges_24, qX7_roundChanges_27, qX7_roundChanges_28, qX7_roundChanges_29, qX7_roundChanges_32, qX7_roundChanges_33, qX7_roundChanges_36, qX7_roundChanges_37, qX7_roundChanges_38, qX7_roundChanges_39, qX7_roundChanges_42, qX7_roundChanges_43, qX7_roundChanges_44, qX7_roundChanges_45, qX7_roundChanges_48, qX7_roundChanges_51, qX7_roundChanges_52, h2, h3, true_and, e0, e1]
      by_cases e : nI (A (rdG A s l) l) = s l
      · have e' : decide (nI (A (rdG A s l) l) ≠ s l) = false := by simp [e]
        rw [if_pos e, e']
        simp only [qX7_roundChanges_0, qX7_roundChanges_1, qX7_roundChanges_2, qX7_roundChanges_3, qX7_roundChanges_5, qX7_roundChanges_6, qX7_roundChanges_9, qX7_roundChanges_12, qX7_roundChanges_13, qX7_roundChanges_14, qX7_roundChanges_17, qX7_roundChanges_18, qX7_roundChanges_19, qX7_roundChanges_22, qX7_roundChanges_23, qX7_roundChanges_24, qX7_roundChanges_27, qX7_roundChanges_28, qX7_roundChanges_29, qX7_roundChanges_32, qX7_roundChanges_33, qX7_roundChanges_36, qX7_roundChanges_37, qX7_roundChanges_38, qX7_roundChanges_39, qX7_roundChanges_42, qX7_roundChanges_43, qX7_roundChanges_44, qX7_roundChanges_45, qX7_roundChanges_48, qX7_roundChanges_51, qX7_roundChanges_52, h2, h3, e0, mm_sti_set, rdG, nI_1, true_or, true_and, Bool.false_eq_true, if_false]
      · have e' : decide (nI (A (rdG A s l) l) ≠ s l) = true := by simp [e]
        rw [if_neg e, e']
        simp only [qX7_roundChanges_0, qX7_roundChanges_1, qX7_roundChanges_2, qX7_roundChanges_3, qX7_roundChanges_5, qX7_roundChanges_6, qX7_roundChanges_9, qX7_roundChanges_12, qX7_roundChanges_13, qX7_roundChanges_14, qX7_roundChanges_17, qX7_roundChanges_18, qX7_roundChanges_19, qX7_roundChanges_22, qX7_roundChanges_23, qX7_roundChanges_24, qX7_roundChanges_27, qX7_roundChanges_28, qX7_roundChanges_29, qX7_roundChanges_32, qX7_roundChanges_33, qX7_roundChanges_36, qX7_roundChanges_37, qX7_roundChanges_38, qX7_roundChanges_39, qX7_roundChanges_42, qX7_roundChanges_43, qX7_roundChanges_44, qX7_roundChanges_45, qX7_roundChanges_48, qX7_roundChanges_51, qX7_roundChanges_52, h2, h3, e0, mm_sti_set, rdG, nI_1, or_true, true_and, if_true]
theorem MgoToRest_loop {μ : mm_M} {n R : Nat} {s : Nat → Int32} (hT : okM μ n) (hR : R ≤ 30) (hq : ∀ i, i < R → qG (abM (μ.1 0 9) μ n) n s i = true) (hq2 : R < 30 → qG (abM (μ.1 0 9) μ n) n s R = false) : ∀ (j r : Nat) (ν : mm_M), j + r = R → (∀ k, k ≠ 7 → k ≠ 15 → k ≠ 16 → k ≠ 17 → ν.1 k = μ.1 k) → ν.1 7 = stG (abM (μ.1 0 9) μ n) n s r → ∃ ν' : mm_M, (∀ k, k ≠ 7 → k ≠ 15 → k ≠ 16 → k ≠ 17 → ν'.1 k = μ.1 k) ∧ (∀ i, n ≤ i → ν'.1 7 i = s i) ∧ (R < 30 → ν'.1 7 = stG (abM (μ.1 0 9) μ n) n s R) ∧ ∀ (d : Nat) (P : mm_O), mm_at shM (d + 7) 129 [] P 30 [.ref 0, .int (nI r)] [] ν = P (some (.int (if R = 30 then -1 else nI R))) ν' := by
  intro j
  induction j with
  | zero =>
    intro r ν hr k1 k2
    have hr : r = R := by omega
    subst hr
    by_cases h30 : r = 30
    · subst h30
      refine ⟨ν, k1, fun i hi => by rw [k2, stG_o hi], fun h => by omega, fun d P => ?_⟩
      rw [qX7_goToRest_30]
      simp only [qX7_goToRest_0, qX7_goToRest_1, qX7_goToRest_3, qX7_goToRest_4, qX7_goToRest_7, qX7_goToRest_10, qX7_goToRest_11, qX7_goToRest_14, qX7_goToRest_15, qX7_goToRest_16, qX7_goToRest_19, qX7_goToRest_20, qX7_goToRest_21, qX7_goToRest_22, qX7_goToRest_25, qX7_goToRest_28, qX7_goToRest_29, qX7_goToRest_31, qX7_goToRest_33, qX7_goToRest_36, qX7_goToRest_37, qX7_goToRest_40, qX7_goToRest_43, qX7_goToRest_46, qX7_goToRest_49, qX7_goToRest_50, qX7_goToRest_52, qX7_goToRest_55, qX7_goToRest_56, qX7_goToRest_59, qX7_goToRest_60, show nI 30 = 30 from rfl, Int32.le_refl, if_true]
    · have hlt : r < 30 := by omega
      have h1 : ¬ (30 : Int32) ≤ nI r := show ¬ nI 30 ≤ nI r from nI_ge (by omega) (by decide)
      have h2 : ¬ nI r = 30 := fun q => h30 (by have := congrArg Int32.toNatClampNeg q; rw [nI_clamp (by omega), show (30 : Int32).toNatClampNeg = 30 from rfl] at this; exact this)
      have hA : abM (ν.1 0 9) ν n = abM (μ.1 0 9) μ n := by
        rw [k1 0 (by decide) (by decide) (by decide) (by decide)]
        exact abM_of (fun k hk => k1 k (by omega) (by omega) (by omega) (by omega)) (by rw [k1 0 (by decide) (by decide) (by decide) (by decide)])
      obtain ⟨ν', i1, i2, i3⟩ := Mround_loop (μ := ν) (n := n) (s := stG (abM (μ.1 0 9) μ n) n s r) (okM_of hT (k1 3 (by decide) (by decide) (by decide) (by decide)) (by rw [k1 0 (by decide) (by decide) (by decide) (by decide)])) n 0 ν .null (by omega) (fun _ _ _ _ _ => rfl) (by rw [k2]; rfl)
      rw [hA] at i2 i3
      have hch : chG (abM (μ.1 0 9) μ n) (stG (abM (μ.1 0 9) μ n) n s r) n = false := hq2 hlt
      refine ⟨ν', fun k a b c d => by rw [i1 k a b c d]; exact k1 k a b c d, fun i hi => by rw [i2, rdG_o hi, stG_o hi], fun _ => by rw [i2]; exact chG_no hch, fun d P => ?_⟩
      rw [qX7_goToRest_30]
      simp only [qX7_goToRest_0, qX7_goToRest_1, qX7_goToRest_3, qX7_goToRest_4, qX7_goToRest_7, qX7_goToRest_10, qX7_goToRest_11, qX7_goToRest_14, qX7_goToRest_15, qX7_goToRest_16, qX7_goToRest_19, qX7_goToRest_20, qX7_goToRest_21, qX7_goToRest_22, qX7_goToRest_25, qX7_goToRest_28, qX7_goToRest_29, qX7_goToRest_31, qX7_goToRest_33, qX7_goToRest_36, qX7_goToRest_37, qX7_goToRest_40, qX7_goToRest_43, qX7_goToRest_46, qX7_goToRest_49, qX7_goToRest_50, qX7_goToRest_52, qX7_goToRest_55, qX7_goToRest_56, qX7_goToRest_59, qX7_goToRest_60, h1, if_false]
      rw [in_X7_roundChanges]
      simp only [qX7_roundChanges_0, qX7_roundChanges_1, qX7_roundChanges_2, qX7_roundChanges_3, qX7_roundChanges_5, qX7_roundChanges_6, qX7_roundChanges_9, qX7_roundChanges_12, qX7_roundChanges_13, qX7_roundChanges_14, qX7_roundChanges_17, qX7_roundChanges_18, qX7_roundChanges_19, qX7_roundChanges_22, qX7_roundChanges_23, qX7_roundChanges_24, qX7_roundChanges_27, qX7_roundChanges_28, qX7_roundChanges_29, qX7_roundChanges_32, qX7_roundChanges_33, qX7_roundChanges_36, qX7_roundChanges_37, qX7_roundChanges_38, qX7_roundChanges_39, qX7_roundChanges_42, qX7_roundChanges_43, qX7_roundChanges_44, qX7_roundChanges_45, qX7_roundChanges_48, qX7_roundChanges_51, qX7_roundChanges_52]
      refine Eq.trans (i3 d _) ?_
      rw [hch]
      simp only [bI, Bool.false_eq_true, if_false, qX7_goToRest_0, qX7_goToRest_1, qX7_goToRest_3, qX7_goToRest_4, qX7_goToRest_7, qX7_goToRest_10, qX7_goToRest_11, qX7_goToRest_14, qX7_goToRest_15, qX7_goToRest_16, qX7_goToRest_19, qX7_goToRest_20, qX7_goToRest_21, qX7_goToRest_22, qX7_goToRest_25, qX7_goToRest_28, qX7_goToRest_29, qX7_goToRest_31, qX7_goToRest_33, qX7_goToRest_36, qX7_goToRest_37, qX7_goToRest_40, qX7_goToRest_43, qX7_goToRest_46, qX7_goToRest_49, qX7_goToRest_50, qX7_goToRest_52, qX7_goToRest_55, qX7_goToRest_56, qX7_goToRest_59, qX7_goToRest_60, if_true, h2, h30, Option.toList, List.cons_append, List.nil_append]
  | succ j ih =>
    intro r ν hr k1 k2
    have hlt : r < R := by omega
    have h1 : ¬ (30 : Int32) ≤ nI r := show ¬ nI 30 ≤ nI r from nI_ge (by omega) (by decide)
    have hA : abM (ν.1 0 9) ν n = abM (μ.1 0 9) μ n := by
      rw [k1 0 (by decide) (by decide) (by decide) (by decide)]
      exact abM_of (fun k hk => k1 k (by omega) (by omega) (by omega) (by omega)) (by rw [k1 0 (by decide) (by decide) (by decide) (by decide)])
    obtain ⟨ν1, i1, i2, i3⟩ := Mround_loop (μ := ν) (n := n) (s := stG (abM (μ.1 0 9) μ n) n s r) (okM_of hT (k1 3 (by decide) (by decide) (by decide) (by decide)) (by rw [k1 0 (by decide) (by decide) (by decide) (by decide)])) n 0 ν .null (by omega) (fun _ _ _ _ _ => rfl) (by rw [k2]; rfl)
    rw [hA] at i2 i3
    have hch : chG (abM (μ.1 0 9) μ n) (stG (abM (μ.1 0 9) μ n) n s r) n = true := hq r hlt
    obtain ⟨ν', j1, j2, j3, j4⟩ := ih (r + 1) ν1 (by omega) (fun k a b c d => by rw [i1 k a b c d]; exact k1 k a b c d) i2
    refine ⟨ν', j1, j2, j3, fun d P => ?_⟩
    rw [← j4 d P, qX7_goToRest_30]
    simp only [qX7_goToRest_0, qX7_goToRest_1, qX7_goToRest_3, qX7_goToRest_4, qX7_goToRest_7, qX7_goToRest_10, qX7_goToRest_11, qX7_goToRest_14, qX7_goToRest_15, qX7_goToRest_16, qX7_goToRest_19, qX7_goToRest_20, qX7_goToRest_21, qX7_goToRest_22, qX7_goToRest_25, qX7_goToRest_28, qX7_goToRest_29, qX7_goToRest_31, qX7_goToRest_33, qX7_goToRest_36, qX7_goToRest_37, qX7_goToRest_40, qX7_goToRest_43, qX7_goToRest_46, qX7_goToRest_49, qX7_goToRest_50, qX7_goToRest_52, qX7_goToRest_55, qX7_goToRest_56, qX7_goToRest_59, qX7_goToRest_60, h1, if_false]
    rw [in_X7_roundChanges]
    simp only [qX7_roundChanges_0, qX7_roundChanges_1, qX7_roundChanges_2, qX7_roundChanges_3, qX7_roundChanges_5, qX7_roundChanges_6, qX7_roundChanges_9, qX7_roundChanges_12, qX7_roundChanges_13, qX7_roundChanges_14, qX7_roundChanges_17, qX7_roundChanges_18, qX7_roundChanges_19, qX7_roundChanges_22, qX7_roundChanges_23, qX7_roundChanges_24, qX7_roundChanges_27, qX7_roundChanges_28, qX7_roundChanges_29, qX7_roundChanges_32, qX7_roundChanges_33, qX7_roundChanges_36, qX7_roundChanges_37, qX7_roundChanges_38, qX7_roundChanges_39, qX7_roundChanges_42, qX7_roundChanges_43, qX7_roundChanges_44, qX7_roundChanges_45, qX7_roundChanges_48, qX7_roundChanges_51, qX7_roundChanges_52]
    refine Eq.trans (i3 d _) ?_
    rw [hch]
    simp only [bI, if_true, show ¬ (1 : Int32) = 0 by decide, if_false, qX7_goToRest_0, qX7_goToRest_1, qX7_goToRest_3, qX7_goToRest_4, qX7_goToRest_7, qX7_goToRest_10, qX7_goToRest_11, qX7_goToRest_14, qX7_goToRest_15, qX7_goToRest_16, qX7_goToRest_19, qX7_goToRest_20, qX7_goToRest_21, qX7_goToRest_22, qX7_goToRest_25, qX7_goToRest_28, qX7_goToRest_29, qX7_goToRest_31, qX7_goToRest_33, qX7_goToRest_36, qX7_goToRest_37, qX7_goToRest_40, qX7_goToRest_43, qX7_goToRest_46, qX7_goToRest_49, qX7_goToRest_50, qX7_goToRest_52, qX7_goToRest_55, qX7_goToRest_56, qX7_goToRest_59, qX7_goToRest_60, nI_1, Option.toList, List.cons_append, List.nil_append]
theorem Mcopy_loop {n : Nat} (hn : n ≤ 7) {μ : mm_M} (h0 : μ.1 0 3 = nI n) : ∀ (j k : Nat) (ν : mm_M), j + k = n → (∀ c, c ≠ 19 → ν.1 c = μ.1 c) → (∀ i, i < k → ν.1 19 i = μ.1 7 i) → ∃ ν' : mm_M, (∀ c, c ≠ 19 → ν'.1 c = μ.1 c) ∧ (∀ i, i < n → ν'.1 19 i = μ.1 7 i) ∧ ∀ (d : Nat) (P : mm_O), mm_at shM d 129 [] P 2 [.ref 0, .int (nI k)] [] ν = mm_at shM d 129 [] P 30 [.ref 0, .int (nI 0)] [] ν' := by
  intro j
  induction j with
  | zero =>
    intro k ν hk k1 k2
    have hk : k = n := by omega
    subst hk
    refine ⟨ν, k1, k2, fun d P => ?_⟩
    rw [qX7_goToRest_2]
    simp only [qX7_goToRest_0, qX7_goToRest_1, qX7_goToRest_3, qX7_goToRest_4, qX7_goToRest_7, qX7_goToRest_10, qX7_goToRest_11, qX7_goToRest_14, qX7_goToRest_15, qX7_goToRest_16, qX7_goToRest_19, qX7_goToRest_20, qX7_goToRest_21, qX7_goToRest_22, qX7_goToRest_25, qX7_goToRest_28, qX7_goToRest_29, qX7_goToRest_31, qX7_goToRest_33, qX7_goToRest_36, qX7_goToRest_37, qX7_goToRest_40, qX7_goToRest_43, qX7_goToRest_46, qX7_goToRest_49, qX7_goToRest_50, qX7_goToRest_52, qX7_goToRest_55, qX7_goToRest_56, qX7_goToRest_59, qX7_goToRest_60, k1 0 (by decide), h0, show nI k ≤ nI k from Int32.le_refl _, if_true]
    rfl
  | succ j ih =>
    intro k ν hk k1 k2
    have h1 : ¬ nI n ≤ nI k := nI_ge (by omega) (by omega)
    have h2 : vp_in (nI k) 7 := vp_in_nI (by omega) (by decide)
    have h3 : (nI k).toNatClampNeg = k := nI_clamp (by omega)
    obtain ⟨ν', i1, i2, i3⟩ := ih (k + 1) (mm_set ν 19 (upd (ν.1 19) k (μ.1 7 k))) (by omega) (fun c hc => by rw [mm_set_ne _ _ hc]; exact k1 c hc) (fun i hi => by
      rw [mm_set_same, upd_1]
      by_cases e : i = k
      · rw [if_pos e, e]
      · rw [if_neg e]; exact k2 i (by omega))
    refine ⟨ν', i1, i2, fun d P => ?_⟩
    rw [← i3 d P, qX7_goToRest_2]
    simp only [qX7_goToRest_0, qX7_goToRest_1, qX7_goToRest_3, qX7_goToRest_4, qX7_goToRest_7, qX7_goToRest_10, qX7_goToRest_11, qX7_goToRest_14, qX7_goToRest_15, qX7_goToRest_16, qX7_goToRest_19, qX7_goToRest_20, qX7_goToRest_21, qX7_goToRest_22, qX7_goToRest_25, qX7_goToRest_28, qX7_goToRest_29, qX7_goToRest_31, qX7_goToRest_33, qX7_goToRest_36, qX7_goToRest_37, qX7_goToRest_40, qX7_goToRest_43, qX7_goToRest_46, qX7_goToRest_49, qX7_goToRest_50, qX7_goToRest_52, qX7_goToRest_55, qX7_goToRest_56, qX7_goToRest_59, qX7_goToRest_60, k1 0 (by decide), k1 7 (by decide), h0, h1, h2, h3, if_false, true_and, mm_sti_set, nI_1]
theorem s_MgoToRest {μ : mm_M} {n R : Nat} (hT : okM μ n) (hR : R ≤ 30) (hq : ∀ i, i < R → qG (abM (μ.1 0 9) μ n) n (μ.1 7) i = true) (hq2 : R < 30 → qG (abM (μ.1 0 9) μ n) n (μ.1 7) R = false) : ∃ ν' : mm_M, (∀ k, k ≠ 7 → k ≠ 15 → k ≠ 16 → k ≠ 17 → k ≠ 19 → ν'.1 k = μ.1 k) ∧ (∀ i, i < n → ν'.1 19 i = μ.1 7 i) ∧ (∀ i, n ≤ i → ν'.1 7 i = μ.1 7 i) ∧ (R < 30 → ν'.1 7 = stG (abM (μ.1 0 9) μ n) n (μ.1 7) R) ∧ ∀ (d : Nat) (P : mm_O), mm_run shM (d + 8) 129 [.ref 0] μ P = P (some (.int (if R = 30 then -1 else nI R))) ν' := by
  obtain ⟨ν1, i1, i2, i3⟩ := Mcopy_loop hT.2.1 hT.1 n 0 μ (by omega) (fun _ _ => rfl) (fun i hi => by omega)
  have hA : abM (ν1.1 0 9) ν1 n = abM (μ.1 0 9) μ n := by
    rw [i1 0 (by decide)]
    exact abM_of (fun k hk => i1 k (by omega)) (by rw [i1 0 (by decide)])
  obtain ⟨ν', j1, j2, j3, j4⟩ := MgoToRest_loop (μ := ν1) (n := n) (R := R) (s := μ.1 7) (okM_of hT (i1 3 (by decide)) (by rw [i1 0 (by decide)])) hR (by rw [hA]; exact hq) (by rw [hA]; exact hq2) R 0 ν1 (by omega) (fun _ _ _ _ _ => rfl) (i1 7 (by decide))
  refine ⟨ν', fun k a b c d e => by rw [j1 k a b c d]; exact i1 k e, fun i hi => by rw [j1 19 (by decide) (by decide) (by decide) (by decide)]; exact i2 i hi, j2, fun h => by rw [j3 h, hA], fun d P => ?_⟩
  rw [← j4 d P, in_X7_goToRest]
  simp only [qX7_goToRest_0, qX7_goToRest_1, qX7_goToRest_3, qX7_goToRest_4, qX7_goToRest_7, qX7_goToRest_10, qX7_goToRest_11, qX7_goToRest_14, qX7_goToRest_15, qX7_goToRest_16, qX7_goToRest_19, qX7_goToRest_20, qX7_goToRest_21, qX7_goToRest_22, qX7_goToRest_25, qX7_goToRest_29, qX7_goToRest_31, qX7_goToRest_33, qX7_goToRest_36, qX7_goToRest_37, qX7_goToRest_40, qX7_goToRest_43, qX7_goToRest_46, qX7_goToRest_49, qX7_goToRest_50, qX7_goToRest_52, qX7_goToRest_55, qX7_goToRest_56, qX7_goToRest_59, qX7_goToRest_60]
  exact i3 _ _
theorem s_MgoBackFromRest_loop {d n : Nat} {P : mm_O} (hn : n ≤ 7) : ∀ (j k : Nat) (μ : mm_M), j + k = n → μ.1 0 3 = nI n → mm_at shM d 130 [] P 2 [.ref 0, .int (nI k)] [] μ = P none (mm_set μ 7 (fun i => if k ≤ i ∧ i < n then μ.1 19 i else μ.1 7 i)) := by
  intro j
  induction j with
  | zero =>
    intro k μ hk h0
    have hk : k = n := by omega
    subst hk
    rw [show (fun i => if k ≤ i ∧ i < k then μ.1 19 i else μ.1 7 i) = μ.1 7 from funext fun i => if_neg (by omega), mm_set_self, qX7_goBackFromRest_2]
    simp only [qX7_goBackFromRest_0, qX7_goBackFromRest_1, qX7_goBackFromRest_3, qX7_goBackFromRest_4, qX7_goBackFromRest_7, qX7_goBackFromRest_10, qX7_goBackFromRest_11, qX7_goBackFromRest_14, qX7_goBackFromRest_15, qX7_goBackFromRest_16, qX7_goBackFromRest_19, qX7_goBackFromRest_20, qX7_goBackFromRest_21, qX7_goBackFromRest_22, qX7_goBackFromRest_25, qX7_goBackFromRest_28, h0, show nI k ≤ nI k from Int32.le_refl _, if_true]
  | succ j ih =>
    intro k μ hk h0
    have h1 : ¬ nI n ≤ nI k := nI_ge (by omega) (by omega)
    have h2 : vp_in (nI k) 7 := vp_in_nI (by omega) (by decide)
    have h3 : (nI k).toNatClampNeg = k := nI_clamp (by omega)
    rw [qX7_goBackFromRest_2]
    simp only [qX7_goBackFromRest_0, qX7_goBackFromRest_1, qX7_goBackFromRest_3, qX7_goBackFromRest_4, qX7_goBackFromRest_7, qX7_goBackFromRest_10, qX7_goBackFromRest_11, qX7_goBackFromRest_14, qX7_goBackFromRest_15, qX7_goBackFromRest_16, qX7_goBackFromRest_19, qX7_goBackFromRest_20, qX7_goBackFromRest_21, qX7_goBackFromRest_22, qX7_goBackFromRest_25, qX7_goBackFromRest_28, h0, h1, h2, h3, if_false, true_and, mm_sti_set, nI_1]
    rw [ih (k + 1) _ (by omega) (by rw [mm_set_ne _ _ (by decide)]; exact h0), mm_set_set, mm_set_same, mm_set_ne _ _ (by decide)]
    congr 2
    funext i
    rw [upd_1]
    by_cases e : i = k
    · subst e
      rw [if_neg (by omega), if_pos rfl, if_pos (by omega)]
    · by_cases q : k ≤ i ∧ i < n
      · rw [if_pos (by omega), if_pos q]
      · rw [if_neg (by omega), if_neg e, if_neg q]
theorem s_MgoBackFromRest {d n : Nat} {P : mm_O} {μ : mm_M} (hn : n ≤ 7) (h0 : μ.1 0 3 = nI n) : mm_run shM (d + 1) 130 [.ref 0] μ P = P none (mm_set μ 7 (fun i => if i < n then μ.1 19 i else μ.1 7 i)) := by
  rw [in_X7_goBackFromRest]
  simp only [qX7_goBackFromRest_0, qX7_goBackFromRest_1, qX7_goBackFromRest_3, qX7_goBackFromRest_4, qX7_goBackFromRest_7, qX7_goBackFromRest_10, qX7_goBackFromRest_11, qX7_goBackFromRest_14, qX7_goBackFromRest_15, qX7_goBackFromRest_16, qX7_goBackFromRest_19, qX7_goBackFromRest_20, qX7_goBackFromRest_21, qX7_goBackFromRest_22, qX7_goBackFromRest_25, qX7_goBackFromRest_28]
  have e := s_MgoBackFromRest_loop (d := d) (P := P) hn n 0 μ (by omega) h0
  simp only [Nat.zero_le, true_and] at e
  exact e
