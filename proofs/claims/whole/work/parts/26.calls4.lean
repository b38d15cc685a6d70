/-! CALLS: came, judge -/
theorem came_no {d C l : Nat} {P : mm_O} {σ : mm_M} {cr : Nat → Nat} (hC : C ≤ 7) (hl : l < 7) (c1 : σ.1 0 11 = nI C) (hr : ∀ k, k < C → σ.1 42 k = nI (cr k)) (hb : ∀ k, k < C → cr k < 7) (hno : ∀ i, i < C → cr i ≠ l) : ∀ (j k : Nat), j + k = C → mm_at shC (d + 1) 65 [] P 16 [.ref 0, .int (nI l), .int (nI k)] [] σ = mm_at shC (d + 1) 65 [] P 45 [.ref 0, .int (nI l), .int (nI C)] [] σ := by
  intro j
  induction j with
  | zero =>
    intro k hk
    have hk : k = C := by omega
    subst hk
    rw [qX6_came_16]
    simp only [qX6_came_0, qX6_came_1, qX6_came_4, qX6_came_5, qX6_came_8, qX6_came_11, qX6_came_13, qX6_came_14, qX6_came_15, qX6_came_17, qX6_came_18, qX6_came_21, qX6_came_24, qX6_came_25, qX6_came_28, qX6_came_29, qX6_came_32, qX6_came_33, qX6_came_36, qX6_came_38, qX6_came_39, qX6_came_42, qX6_came_46, qX6_came_49, qX6_came_50, qX6_came_53, qX6_came_54, qX6_came_57, qX6_came_58, qX6_came_59, qX6_came_62, qX6_came_63, qX6_came_64, qX6_came_67, qX6_came_68, qX6_came_71, c1, show nI k ≤ nI k from nI_le (Nat.le_refl k) (by omega), if_true]
  | succ j ih =>
    intro k hk
    have h1 : ¬ nI C ≤ nI k := nI_ge (by omega) (by omega)
    have hb2 := hb k (by omega)
    rw [qX6_came_16]
    simp only [qX6_came_0, qX6_came_1, qX6_came_4, qX6_came_5, qX6_came_8, qX6_came_11, qX6_came_13, qX6_came_14, qX6_came_15, qX6_came_17, qX6_came_18, qX6_came_21, qX6_came_24, qX6_came_25, qX6_came_28, qX6_came_29, qX6_came_32, qX6_came_33, qX6_came_36, qX6_came_38, qX6_came_39, qX6_came_42, qX6_came_46, qX6_came_49, qX6_came_50, qX6_came_53, qX6_came_54, qX6_came_57, qX6_came_58, qX6_came_59, qX6_came_62, qX6_came_63, qX6_came_64, qX6_came_67, qX6_came_68, qX6_came_71, c1, h1, s_at_42, if_false, Option.toList, List.cons_append, List.nil_append]
    rw [atF_in _ (show k < 7 by omega) (by decide), hr k (by omega), if_neg (fun q => hno k (by omega) ((nI_eq (by omega) (by omega)).mp q)), nI_1]
    exact ih (k + 1) (by omega)
theorem came_yes {d C l : Nat} {P : mm_O} {σ : mm_M} {cr : Nat → Nat} (hC : C ≤ 7) (hl : l < 7) (c1 : σ.1 0 11 = nI C) (hr : ∀ k, k < C → σ.1 42 k = nI (cr k)) (hb : ∀ k, k < C → cr k < 7) : ∀ (j k : Nat), j + k = C → (∃ i, k ≤ i ∧ i < C ∧ cr i = l) → mm_at shC (d + 1) 65 [] P 16 [.ref 0, .int (nI l), .int (nI k)] [] σ = P (some (.int (-1000000003))) σ := by
  intro j
  induction j with
  | zero =>
    intro k hk ⟨i, h1, h2, h3⟩
    omega
  | succ j ih =>
    intro k hk ⟨i, i1, i2, i3⟩
    have h1 : ¬ nI C ≤ nI k := nI_ge (by omega) (by omega)
    have hb2 := hb k (by omega)
    rw [qX6_came_16]
    simp only [qX6_came_0, qX6_came_1, qX6_came_4, qX6_came_5, qX6_came_8, qX6_came_11, qX6_came_13, qX6_came_14, qX6_came_15, qX6_came_17, qX6_came_18, qX6_came_21, qX6_came_24, qX6_came_25, qX6_came_28, qX6_came_29, qX6_came_32, qX6_came_33, qX6_came_36, qX6_came_38, qX6_came_39, qX6_came_42, qX6_came_46, qX6_came_49, qX6_came_50, qX6_came_53, qX6_came_54, qX6_came_57, qX6_came_58, qX6_came_59, qX6_came_62, qX6_came_63, qX6_came_64, qX6_came_67, qX6_came_68, qX6_came_71, c1, h1, s_at_42, if_false, Option.toList, List.cons_append, List.nil_append]
    rw [atF_in _ (show k < 7 by omega) (by decide), hr k (by omega)]
    by_cases e : cr k = l
    · rw [e, if_pos rfl]
    · rw [if_neg (fun q => e ((nI_eq (by omega) (by omega)).mp q)), nI_1]
      refine ih (k + 1) (by omega) ⟨i, ?_, i2, i3⟩
      rcases Nat.lt_or_ge k i with h | h
      · omega
      · exact absurd (by rw [show k = i by omega]; exact i3) e
theorem Mcame_no {d C l : Nat} {P : mm_O} {μ : mm_M} {cr : Nat → Nat} (hC : C ≤ 7) (hl : l < 7) (c1 : μ.1 0 36 = nI C) (hr : ∀ k, k < C → μ.1 20 k = nI (cr k)) (hb : ∀ k, k < C → cr k < 7) (hno : ∀ i, i < C → cr i ≠ l) : ∀ (j k : Nat), j + k = C → mm_at shM d 135 [] P 13 [.ref 0, .int (nI l), .int (nI k)] [] μ = mm_at shM d 135 [] P 41 [.ref 0, .int (nI l), .int (nI C)] [] μ := by
  intro j
  induction j with
  | zero =>
    intro k hk
    have hk : k = C := by omega
    subst hk
    rw [qX7_came_13]
    simp only [qX7_came_0, qX7_came_1, qX7_came_2, qX7_came_5, qX7_came_8, qX7_came_10, qX7_came_11, qX7_came_12, qX7_came_14, qX7_came_15, qX7_came_18, qX7_came_21, qX7_came_22, qX7_came_25, qX7_came_26, qX7_came_27, qX7_came_28, qX7_came_31, qX7_came_34, qX7_came_35, qX7_came_38, qX7_came_42, qX7_came_45, qX7_came_46, qX7_came_49, qX7_came_50, qX7_came_51, qX7_came_52, qX7_came_53, qX7_came_56, qX7_came_57, qX7_came_58, qX7_came_61, qX7_came_62, qX7_came_65, c1, show nI k ≤ nI k from nI_le (Nat.le_refl k) (by omega), if_true]
  | succ j ih =>
    intro k hk
    have h1 : ¬ nI C ≤ nI k := nI_ge (by omega) (by omega)
    have hb2 := hb k (by omega)
    have h2 : vp_in (nI k) 7 := vp_in_nI (by omega) (by decide)
    have h3 : (nI k).toNatClampNeg = k := nI_clamp (by omega)
    rw [qX7_came_13]
    simp only [qX7_came_0, qX7_came_1, qX7_came_2, qX7_came_5, qX7_came_8, qX7_came_10, qX7_came_11, qX7_came_12, qX7_came_14, qX7_came_15, qX7_came_18, qX7_came_21, qX7_came_22, qX7_came_25, qX7_came_26, qX7_came_27, qX7_came_28, qX7_came_31, qX7_came_34, qX7_came_35, qX7_came_38, qX7_came_42, qX7_came_45, qX7_came_46, qX7_came_49, qX7_came_50, qX7_came_51, qX7_came_52, qX7_came_53, qX7_came_56, qX7_came_57, qX7_came_58, qX7_came_61, qX7_came_62, qX7_came_65, c1, h1, h2, h3, hr k (by omega), show ¬ nI (cr k) = nI l from fun q => hno k (by omega) ((nI_eq (by omega) (by omega)).mp q), true_and, if_false, nI_1]
    exact ih (k + 1) (by omega)
theorem Mcame_yes {d C l : Nat} {P : mm_O} {μ : mm_M} {cr : Nat → Nat} (hC : C ≤ 7) (hl : l < 7) (c1 : μ.1 0 36 = nI C) (hr : ∀ k, k < C → μ.1 20 k = nI (cr k)) (hb : ∀ k, k < C → cr k < 7) : ∀ (j k : Nat), j + k = C → (∃ i, k ≤ i ∧ i < C ∧ cr i = l) → mm_at shM d 135 [] P 13 [.ref 0, .int (nI l), .int (nI k)] [] μ = P (some (.int (-1000000003))) μ := by
  intro j
  induction j with
  | zero =>
    intro k hk ⟨i, h1, h2, h3⟩
    omega
  | succ j ih =>
    intro k hk ⟨i, i1, i2, i3⟩
    have h1 : ¬ nI C ≤ nI k := nI_ge (by omega) (by omega)
    have hb2 := hb k (by omega)
    have h2 : vp_in (nI k) 7 := vp_in_nI (by omega) (by decide)
    have h3 : (nI k).toNatClampNeg = k := nI_clamp (by omega)
    rw [qX7_came_13]
    by_cases e : cr k = l
    · simp only [qX7_came_0, qX7_came_1, qX7_came_2, qX7_came_5, qX7_came_8, qX7_came_10, qX7_came_11, qX7_came_12, qX7_came_14, qX7_came_15, qX7_came_18, qX7_came_21, qX7_came_22, qX7_came_25, qX7_came_26, qX7_came_27, qX7_came_28, qX7_came_31, qX7_came_34, qX7_came_35, qX7_came_38, qX7_came_42, qX7_came_45, qX7_came_46, qX7_came_49, qX7_came_50, qX7_came_51, qX7_came_52, qX7_came_53, qX7_came_56, qX7_came_57, qX7_came_58, qX7_came_61, qX7_came_62, qX7_came_65, c1, h1, h2, h3, hr k (by omega), e, true_and, if_false, if_true]
    · simp only [qX7_came_0, qX7_came_1, qX7_came_2, qX7_came_5, qX7_came_8, qX7_came_10, qX7_came_11, qX7_came_12, qX7_came_14, qX7_came_15, qX7_came_18, qX7_came_21, qX7_came_22, qX7_came_25, qX7_came_26, qX7_came_27, qX7_came_28, qX7_came_31, qX7_came_34, qX7_came_35, qX7_came_38, qX7_came_42, qX7_came_45, qX7_came_46, qX7_came_49, qX7_came_50, qX7_came_51, qX7_came_52, qX7_came_53, qX7_came_56, qX7_came_57, qX7_came_58, qX7_came_61, qX7_came_62, qX7_came_65, c1, h1, h2, h3, hr k (by omega), show ¬ nI (cr k) = nI l from fun q => e ((nI_eq (by omega) (by omega)).mp q), true_and, if_false, nI_1]
      refine ih (k + 1) (by omega) ⟨i, ?_, i2, i3⟩
      rcases Nat.lt_or_ge k i with h | h
      · omega
      · exact absurd (by rw [show k = i by omega]; exact i3) e
theorem call_came (l : Int32) : Call 65 135 [.int l] := by
  intro σ μ h
  have hI := h
  obtain ⟨n, np, h1, h2, h3, h4, h5, h6, h7⟩ := h
  have hT := h1.okT
  have hM := h1.okM
  have hn7 := hT.2.1
  have hn : n < 2 ^ 31 := by omega
  by_cases hp : hasF (nI n) l = 0
  · refine ⟨-1000000001, σ, μ, hI, fun d P => ?_, fun d P => ?_⟩
    · rw [in_X6_came]
      simp only [qX6_came_0, qX6_came_1, qX6_came_4, qX6_came_5, qX6_came_8, qX6_came_11, qX6_came_13, qX6_came_14, qX6_came_15, qX6_came_17, qX6_came_18, qX6_came_21, qX6_came_24, qX6_came_25, qX6_came_28, qX6_came_29, qX6_came_32, qX6_came_33, qX6_came_36, qX6_came_38, qX6_came_39, qX6_came_42, qX6_came_45, qX6_came_46, qX6_came_49, qX6_came_50, qX6_came_53, qX6_came_54, qX6_came_57, qX6_came_58, qX6_came_59, qX6_came_62, qX6_came_63, qX6_came_64, qX6_came_67, qX6_came_68, qX6_came_71, s_hasLetter, hT.1, hp, if_true, if_false, Option.toList, List.cons_append, List.nil_append]
    · rw [in_X7_came]
      simp only [qX7_came_0, qX7_came_1, qX7_came_2, qX7_came_5, qX7_came_8, qX7_came_10, qX7_came_11, qX7_came_12, qX7_came_14, qX7_came_15, qX7_came_18, qX7_came_21, qX7_came_22, qX7_came_25, qX7_came_26, qX7_came_27, qX7_came_28, qX7_came_31, qX7_came_34, qX7_came_35, qX7_came_38, qX7_came_41, qX7_came_42, qX7_came_45, qX7_came_46, qX7_came_49, qX7_came_50, qX7_came_51, qX7_came_52, qX7_came_53, qX7_came_56, qX7_came_57, qX7_came_58, qX7_came_61, qX7_came_62, qX7_came_65, s_MisLetter hn hM.1, hp, if_true, if_false, Option.toList, List.cons_append, List.nil_append]
  · obtain ⟨k, hk, rfl⟩ := hasF_1 hn hp
    obtain ⟨C, cr, hC, c1, c2, c3, c4⟩ := h4
    have hb : ∀ i, i < C → cr i < 7 := fun i hi => by have := (c3 i hi).2.2; omega
    have clsS : ∀ (d : Nat) (P : mm_O), mm_run shC (d + 40) 65 [.ref 0, .int (nI k)] σ P = mm_at shC (d + 39) 65 [] P 16 [.ref 0, .int (nI k), .int (nI 0)] [] σ := fun d P => by
      rw [in_X6_came]
      simp only [qX6_came_0, qX6_came_1, qX6_came_4, qX6_came_5, qX6_came_8, qX6_came_11, qX6_came_13, qX6_came_14, qX6_came_15, qX6_came_17, qX6_came_18, qX6_came_21, qX6_came_24, qX6_came_25, qX6_came_28, qX6_came_29, qX6_came_32, qX6_came_33, qX6_came_36, qX6_came_38, qX6_came_39, qX6_came_42, qX6_came_45, qX6_came_46, qX6_came_49, qX6_came_50, qX6_came_53, qX6_came_54, qX6_came_57, qX6_came_58, qX6_came_59, qX6_came_62, qX6_came_63, qX6_came_64, qX6_came_67, qX6_came_68, qX6_came_71, s_hasLetter, hT.1, hp, if_false, Option.toList, List.cons_append, List.nil_append]
      rfl
    have mdlS : ∀ (d : Nat) (P : mm_O), mm_run shM (d + 40) 135 [.ref 0, .int (nI k)] μ P = mm_at shM (d + 39) 135 [] P 13 [.ref 0, .int (nI k), .int (nI 0)] [] μ := fun d P => by
      rw [in_X7_came]
      simp only [qX7_came_0, qX7_came_1, qX7_came_2, qX7_came_5, qX7_came_8, qX7_came_10, qX7_came_11, qX7_came_12, qX7_came_14, qX7_came_15, qX7_came_18, qX7_came_21, qX7_came_22, qX7_came_25, qX7_came_26, qX7_came_27, qX7_came_28, qX7_came_31, qX7_came_34, qX7_came_35, qX7_came_38, qX7_came_41, qX7_came_42, qX7_came_45, qX7_came_46, qX7_came_49, qX7_came_50, qX7_came_51, qX7_came_52, qX7_came_53, qX7_came_56, qX7_came_57, qX7_came_58, qX7_came_61, qX7_came_62, qX7_came_65, s_MisLetter hn hM.1, hp, if_false, Option.toList, List.cons_append, List.nil_append]
      rfl
    by_cases hy : ∃ i, i < C ∧ cr i = k
    · obtain ⟨i, i1, i2⟩ := hy
      refine ⟨-1000000003, σ, μ, hI, fun d P => ?_, fun d P => ?_⟩
      · rw [clsS]
        exact came_yes (cr := cr) (by omega) (by omega) c1 (fun i hi => (c3 i hi).1) hb C 0 (by omega) ⟨i, by omega, i1, i2⟩
      · rw [mdlS]
        exact Mcame_yes (cr := cr) (by omega) (by omega) c2 (fun i hi => (c3 i hi).2.1) hb C 0 (by omega) ⟨i, by omega, i1, i2⟩
    · have hno : ∀ i, i < C → cr i ≠ k := fun i hi e => hy ⟨i, hi, e⟩
      have hCn : C < n := by
        rcases Nat.lt_or_ge C n with h | h
        · exact h
        · obtain ⟨i, i1, i2⟩ := pg_onto n cr (fun i hi => (c3 i (by omega)).2.2) (fun i j hi hj => c4 i j (by omega) (by omega)) k hk
          exact absurd i2 (hno i (by omega))
      have h2k : vp_in (nI C) 7 := vp_in_nI (by omega) (by decide)
      have h3k : (nI C).toNatClampNeg = C := nI_clamp (by omega)
      refine ⟨nI (C + 1), mm_sti (mm_set σ 42 (upd (σ.1 42) C (nI k))) 0 11 (nI (C + 1)), mm_sti (mm_set μ 20 (upd (μ.1 20) C (nI k))) 0 36 (nI (C + 1)), ⟨n, np, by simpa [TwR, mm_sti_set, mm_set_1, upd_1] using h1, by simpa [TxR, mm_sti_set, mm_set_1, upd_1] using h2, by simpa [mm_sti_set, mm_set_1, upd_1] using h3, ?_, by simpa [BkR, mm_sti_set, mm_set_1, upd_1] using h5, by simpa [ImR, mm_sti_set, mm_set_1, upd_1] using h6, by simpa [ImR, mm_sti_set, mm_set_1, upd_1] using h7⟩, fun d P => ?_, fun d P => ?_⟩
      · refine ⟨C + 1, fun i => if i = C then k else cr i, by omega, by simp [mm_sti_set, mm_set_1, upd_1], by simp [mm_sti_set, mm_set_1, upd_1], fun i hi => ?_, fun i j hi hj e => ?_⟩
        · simp only [mm_sti_set, mm_set_1, upd_1, Nat.reduceEqDiff, if_true, if_false]
          by_cases e : i = C
          · simp only [e, if_true]
            exact ⟨trivial, trivial, hk⟩
          · simp only [e, if_false]
            exact c3 i (by omega)
        · have e : (if i = C then k else cr i) = (if j = C then k else cr j) := e
          by_cases e1 : i = C <;> by_cases e2 : j = C
          · omega
          · rw [if_pos e1, if_neg e2] at e
            exact absurd e.symm (hno j (by omega))
          · rw [if_neg e1, if_pos e2] at e
            exact absurd e (hno i (by omega))
          · rw [if_neg e1, if_neg e2] at e
            exact c4 i j (by omega) (by omega) e
      · rw [clsS, came_no (cr := cr) (by omega) (by omega) c1 (fun i hi => (c3 i hi).1) hb hno C 0 (by omega)]
        simp only [qX6_came_0, qX6_came_1, qX6_came_4, qX6_came_5, qX6_came_8, qX6_came_11, qX6_came_13, qX6_came_14, qX6_came_15, qX6_came_17, qX6_came_18, qX6_came_21, qX6_came_24, qX6_came_25, qX6_came_28, qX6_came_29, qX6_came_32, qX6_came_33, qX6_came_36, qX6_came_38, qX6_came_39, qX6_came_42, qX6_came_45, qX6_came_46, qX6_came_49, qX6_came_50, qX6_came_53, qX6_came_54, qX6_came_57, qX6_came_58, qX6_came_59, qX6_came_62, qX6_came_63, qX6_came_64, qX6_came_67, qX6_came_68, qX6_came_71, s_put_42, mm_set_1, c1, Nat.reduceEqDiff, nI_1, if_true, if_false, Option.toList, List.cons_append, List.nil_append]
        rw [putF_in _ _ (show C < 7 by omega) (by decide)]
        simp [mm_sti_set, mm_set_1, upd_1]
      · rw [mdlS, Mcame_no (cr := cr) (by omega) (by omega) c2 (fun i hi => (c3 i hi).2.1) hb hno C 0 (by omega)]
        simp only [qX7_came_0, qX7_came_1, qX7_came_2, qX7_came_5, qX7_came_8, qX7_came_10, qX7_came_11, qX7_came_12, qX7_came_14, qX7_came_15, qX7_came_18, qX7_came_21, qX7_came_22, qX7_came_25, qX7_came_26, qX7_came_27, qX7_came_28, qX7_came_31, qX7_came_34, qX7_came_35, qX7_came_38, qX7_came_41, qX7_came_42, qX7_came_45, qX7_came_46, qX7_came_49, qX7_came_50, qX7_came_51, qX7_came_52, qX7_came_53, qX7_came_56, qX7_came_57, qX7_came_58, qX7_came_61, qX7_came_62, qX7_came_65, mm_sti_set, mm_set_1, c2, h2k, h3k, true_and, Nat.reduceEqDiff, nI_1, if_true, if_false, Option.toList, List.cons_append, List.nil_append]
        simp [mm_sti_set, mm_set_1, upd_1]
/-- the first of the numbers from k on, j of them, that p tells; else -1 -/
def jdF (p : Nat → Bool) : Nat → Nat → Int32
  | 0, _ => -1
  | j + 1, k => if p k = true then nI k else jdF p j (k + 1)
theorem judge_loop {d B : Nat} {P : mm_O} {σ : mm_M} {lt : Nat → Nat} {p : Nat → Bool} (hB : B ≤ 30) (b1 : σ.1 0 12 = nI B) (hl : ∀ k, k < B → σ.1 43 k = nI (lt k) ∧ lt k < 7) (hp : ∀ k, k < B → p k = !decide (σ.1 22 (lt k) = σ.1 44 k)) : ∀ (j k : Nat), j + k = B → mm_at shC (d + 1) 69 [] P 20 [.ref 0, .int (nI k)] [] σ = P (some (.int (jdF p j k))) σ := by
  intro j
  induction j with
  | zero =>
    intro k hk
    have hk : k = B := by omega
    subst hk
    rw [qX6_judge_20]
    simp only [qX6_judge_0, qX6_judge_1, qX6_judge_4, qX6_judge_5, qX6_judge_8, qX6_judge_9, qX6_judge_12, qX6_judge_15, qX6_judge_18, qX6_judge_19, qX6_judge_21, qX6_judge_22, qX6_judge_25, qX6_judge_28, qX6_judge_29, qX6_judge_32, qX6_judge_35, qX6_judge_36, qX6_judge_39, qX6_judge_40, qX6_judge_43, qX6_judge_46, qX6_judge_47, qX6_judge_50, qX6_judge_51, qX6_judge_54, qX6_judge_57, qX6_judge_58, qX6_judge_59, qX6_judge_62, qX6_judge_65, qX6_judge_66, b1, show nI k ≤ nI k from nI_le (Nat.le_refl k) (by omega), if_true, jdF]
  | succ j ih =>
    intro k hk
    have h1 : ¬ nI B ≤ nI k := nI_ge (by omega) (by omega)
    obtain ⟨l1, l2⟩ := hl k (by omega)
    rw [qX6_judge_20]
    simp only [qX6_judge_0, qX6_judge_1, qX6_judge_4, qX6_judge_5, qX6_judge_8, qX6_judge_9, qX6_judge_12, qX6_judge_15, qX6_judge_18, qX6_judge_19, qX6_judge_21, qX6_judge_22, qX6_judge_25, qX6_judge_28, qX6_judge_29, qX6_judge_32, qX6_judge_35, qX6_judge_36, qX6_judge_39, qX6_judge_40, qX6_judge_43, qX6_judge_46, qX6_judge_47, qX6_judge_50, qX6_judge_51, qX6_judge_54, qX6_judge_57, qX6_judge_58, qX6_judge_59, qX6_judge_62, qX6_judge_65, qX6_judge_66, b1, h1, s_at_22, s_at_43, s_at_44, if_false, Option.toList, List.cons_append, List.nil_append]
    rw [atF_in _ (show k < 30 by omega) (by decide), l1, atF_in _ l2 (by decide), atF_in _ (show k < 30 by omega) (by decide)]
    unfold jdF
    rw [hp k (by omega)]
    by_cases e : σ.1 22 (lt k) = σ.1 44 k
    · rw [if_pos e, nI_1, if_neg (by simp [e])]
      exact ih (k + 1) (by omega)
    · rw [if_neg e, if_pos (by simp [e])]
theorem Mjudge_loop {d B : Nat} {P : mm_O} {μ : mm_M} {lt : Nat → Nat} {p : Nat → Bool} {a1 : Value} (hB : B ≤ 30) (b1 : μ.1 0 38 = nI B) (hl : ∀ k, k < B → μ.1 21 k = nI (lt k) ∧ lt k < 7) (hp : ∀ k, k < B → p k = !decide (μ.1 17 (lt k) = μ.1 22 k)) : ∀ (j k : Nat), j + k = B → mm_at shM d 140 [] P 7 [.ref 0, a1, .int (nI k)] [] μ = P (some (.int (jdF p j k))) μ := by
  intro j
  induction j with
  | zero =>
    intro k hk
    have hk : k = B := by omega
    subst hk
    rw [qX7_judge_7]
    simp only [qX7_judge_0, qX7_judge_1, qX7_judge_4, qX7_judge_5, qX7_judge_6, qX7_judge_8, qX7_judge_9, qX7_judge_12, qX7_judge_15, qX7_judge_16, qX7_judge_19, qX7_judge_20, qX7_judge_23, qX7_judge_24, qX7_judge_25, qX7_judge_26, qX7_judge_27, qX7_judge_30, qX7_judge_31, qX7_judge_32, qX7_judge_35, qX7_judge_36, qX7_judge_37, qX7_judge_40, qX7_judge_43, qX7_judge_44, b1, show nI k ≤ nI k from nI_le (Nat.le_refl k) (by omega), if_true, jdF]
  | succ j ih =>
    intro k hk
    have h1 : ¬ nI B ≤ nI k := nI_ge (by omega) (by omega)
    obtain ⟨l1, l2⟩ := hl k (by omega)
    have h2 : vp_in (nI k) 30 := vp_in_nI (by omega) (by decide)
    have h3 : (nI k).toNatClampNeg = k := nI_clamp (by omega)
    have h4 : vp_in (nI (lt k)) 7 := vp_in_nI (by omega) (by decide)
    have h5 : (nI (lt k)).toNatClampNeg = lt k := nI_clamp (by omega)
    rw [qX7_judge_7]
    unfold jdF
    rw [hp k (by omega)]
    by_cases e : μ.1 17 (lt k) = μ.1 22 k
    · rw [if_neg (by simp [e])]
      simp only [qX7_judge_0, qX7_judge_1, qX7_judge_4, qX7_judge_5, qX7_judge_6, qX7_judge_8, qX7_judge_9, qX7_judge_12, qX7_judge_15, qX7_judge_16, qX7_judge_19, qX7_judge_20, qX7_judge_23, qX7_judge_24, qX7_judge_25, qX7_judge_26, qX7_judge_27, qX7_judge_30, qX7_judge_31, qX7_judge_32, qX7_judge_35, qX7_judge_36, qX7_judge_37, qX7_judge_40, qX7_judge_43, qX7_judge_44, b1, h1, h2, h3, l1, h4, h5, e, true_and, if_true, if_false, nI_1]
      exact ih (k + 1) (by omega)
    · rw [if_pos (by simp [e])]
      simp only [qX7_judge_0, qX7_judge_1, qX7_judge_4, qX7_judge_5, qX7_judge_6, qX7_judge_8, qX7_judge_9, qX7_judge_12, qX7_judge_15, qX7_judge_16, qX7_judge_19, qX7_judge_20, qX7_judge_23, qX7_judge_24, qX7_judge_25, qX7_judge_26, qX7_judge_27, qX7_judge_30, qX7_judge_31, qX7_judge_32, qX7_judge_35, qX7_judge_36, qX7_judge_37, qX7_judge_40, qX7_judge_43, qX7_judge_44, b1, h1, h2, h3, l1, h4, h5, e, true_and, if_false]
theorem call_judge : Call 69 140 [] := by
  intro σ μ h
  have hI := h
  obtain ⟨n, np, h1, h2, h3, h4, h5, h6, h7⟩ := h
  have hT := h1.okT
  have hM := h1.okM
  have hn7 := hT.2.1
  obtain ⟨B, hB, b1, b2, b3⟩ := h5
  have hag := layF_ag σ 18 n
  obtain ⟨e0, e1, e11, -, -, -, -, -, -, -, e42, e43, e44⟩ := ag_e hag
  have w0 : (wnF μ n).1 0 38 = nI B := by rw [wnF_o (by decide) (by decide) (by decide)]; exact b2
  have w21 : (wnF μ n).1 21 = μ.1 21 := wnF_o (by decide) (by decide) (by decide)
  have w22 : (wnF μ n).1 22 = μ.1 22 := wnF_o (by decide) (by decide) (by decide)
  have hlt : ∀ k, k < B → σ.1 43 k = nI (glF (σ.1 43) k) ∧ glF (σ.1 43) k < n ∧ μ.1 21 k = nI (glF (σ.1 43) k) := fun k hk => by
    obtain ⟨⟨l, q1, q2, q3⟩, -⟩ := b3 k hk
    have e : glF (σ.1 43) k = l := by unfold glF; rw [q2, nI_clamp (by omega)]
    rw [e]
    exact ⟨q2, q1, q3⟩
  refine ⟨jdF (fun k => !decide (comeF σ 18 n (glF (σ.1 43) k) = σ.1 44 k)) B 0, layF σ 19 20 21 22 18 n, wnF μ n, hI.ag hag (wnF_ag μ n), fun d P => ?_, fun d P => ?_⟩
  · rw [in_X6_judge]
    simp only [qX6_judge_0, qX6_judge_1, qX6_judge_4, qX6_judge_5, qX6_judge_8, qX6_judge_9, qX6_judge_12, qX6_judge_15, qX6_judge_18, qX6_judge_19, qX6_judge_21, qX6_judge_22, qX6_judge_25, qX6_judge_28, qX6_judge_29, qX6_judge_32, qX6_judge_35, qX6_judge_36, qX6_judge_39, qX6_judge_40, qX6_judge_43, qX6_judge_46, qX6_judge_47, qX6_judge_50, qX6_judge_51, qX6_judge_54, qX6_judge_57, qX6_judge_58, qX6_judge_59, qX6_judge_62, qX6_judge_65, qX6_judge_66, s_lay_19 (S := 18) rfl hT (by decide), Option.toList, List.cons_append, List.nil_append]
    exact judge_loop (lt := glF (σ.1 43)) hB (by rw [e0]; exact b1) (fun k hk => by rw [e43]; have := hlt k hk; exact ⟨this.1, by omega⟩) (fun k hk => by rw [lay_c_19 (hlt k hk).2.1, e44]) B 0 (by omega)
  · rw [in_X7_judge]
    simp only [qX7_judge_0, qX7_judge_1, qX7_judge_4, qX7_judge_5, qX7_judge_6, qX7_judge_8, qX7_judge_9, qX7_judge_12, qX7_judge_15, qX7_judge_16, qX7_judge_19, qX7_judge_20, qX7_judge_23, qX7_judge_24, qX7_judge_25, qX7_judge_26, qX7_judge_27, qX7_judge_30, qX7_judge_31, qX7_judge_32, qX7_judge_35, qX7_judge_36, qX7_judge_37, qX7_judge_40, qX7_judge_43, qX7_judge_44, s_MwalkNow hM, Option.toList, List.cons_append, List.nil_append]
    exact Mjudge_loop (lt := glF (σ.1 43)) hB w0 (fun k hk => by rw [w21]; have := hlt k hk; exact ⟨this.2.2, by omega⟩) (fun k hk => by rw [wnF_c (hlt k hk).2.1, w22, h1.come (hlt k hk).2.1, (b3 k hk).2]) B 0 (by omega)
