/-! CALLS: shortest, inTime, the two sides -/
section SH2
variable {σ μ : mm_M} {n np : Nat}
theorem s_seek (h1 : TwR σ μ n np) (b : Bool) : ∃ τ' : mm_M, FrS σ τ' ∧ RC n b (sch_F n (WK σ) (FS σ n) (DU σ) b none 0 (n ^ n)) τ' ∧ ∀ (d : Nat) (P : mm_O), mm_run shC (d + 39) 25 [.ref 23, .ref 11, .int (bI b)] σ P = P none τ' := by
  have hn := h1.2.1.2.2
  generalize hτ : mm_set σ 23 (upd (upd (upd (upd (σ.1 23) 2 (bI b)) 3 0) 4 0) 5 0) = τ
  have e0 : ∀ k, k ≠ 23 → τ.1 k = σ.1 k := fun k hk => by rw [← hτ, mm_set_ne _ _ hk]
  have hr : RC n b none τ := ⟨by rw [← hτ, mm_set_same]; rfl, by rw [← hτ, mm_set_same]; rfl, fun w st c e => by cases e⟩
  obtain ⟨τ', i1, i2, i3, i4, i5⟩ := extend_run h1 b n 0 (fun _ => 0) none τ 0 (by omega) (fun i hi => by omega) (fun i j hi => by omega) (fun i hi => by omega) (fun k a _ _ => e0 k a) hr trivial (fun l hl => ⟨fun h => absurd h (by rw [b_0]; decide), fun ⟨i, hi, _⟩ => by omega⟩)
  rw [sch_eq] at i2
  refine ⟨τ', i1, i2, fun d P => ?_⟩
  have run := i5 (d + (34 - 2 * n)) P
  rw [show d + (34 - 2 * n) + 2 * n + 4 = d + 38 by omega] at run
  have run : mm_run shC (d + 38) 27 [.ref 23, .ref 11, .int 0, .int 0, .int 0] τ P = P none τ' := run
  rw [in_X3_seek]
  cases b with
  | true =>
    simp only [qX3_seek_0, qX3_seek_1, qX3_seek_2, qX3_seek_5, qX3_seek_6, qX3_seek_7, qX3_seek_10, qX3_seek_11, qX3_seek_12, qX3_seek_15, qX3_seek_16, qX3_seek_17, qX3_seek_20, qX3_seek_21, qX3_seek_22, qX3_seek_23, qX3_seek_24, qX3_seek_25, qX3_seek_28, bI, if_true, or_true, true_or, true_and, mm_sti_set, mm_set_1, mm_set_set]
    simp only [bI, if_true] at hτ
    rw [hτ]
    have i6 := i5 (d + (34 - 2 * n))
    rw [show d + (34 - 2 * n) + 2 * n + 4 = d + 38 by omega] at i6
    have i6 : ∀ P, mm_run shC (d + 38) 27 [.ref 23, .ref 11, .int 0, .int 0, .int 0] τ P = P none τ' := i6
    rw [i6]
    simp only [qX3_seek_0, qX3_seek_1, qX3_seek_2, qX3_seek_5, qX3_seek_6, qX3_seek_7, qX3_seek_10, qX3_seek_11, qX3_seek_12, qX3_seek_15, qX3_seek_16, qX3_seek_17, qX3_seek_20, qX3_seek_21, qX3_seek_22, qX3_seek_23, qX3_seek_24, qX3_seek_25, qX3_seek_28, Option.toList, List.nil_append]
  | false =>
    simp only [qX3_seek_0, qX3_seek_1, qX3_seek_2, qX3_seek_5, qX3_seek_6, qX3_seek_7, qX3_seek_10, qX3_seek_11, qX3_seek_12, qX3_seek_15, qX3_seek_16, qX3_seek_17, qX3_seek_20, qX3_seek_21, qX3_seek_22, qX3_seek_23, qX3_seek_24, qX3_seek_25, qX3_seek_28, bI, Bool.false_eq_true, if_false, or_true, true_or, true_and, mm_sti_set, mm_set_1, mm_set_set, if_true]
    simp only [bI, Bool.false_eq_true, if_false] at hτ
    rw [hτ]
    have i6 := i5 (d + (34 - 2 * n))
    rw [show d + (34 - 2 * n) + 2 * n + 4 = d + 38 by omega] at i6
    have i6 : ∀ P, mm_run shC (d + 38) 27 [.ref 23, .ref 11, .int 0, .int 0, .int 0] τ P = P none τ' := i6
    rw [i6]
    simp only [qX3_seek_0, qX3_seek_1, qX3_seek_2, qX3_seek_5, qX3_seek_6, qX3_seek_7, qX3_seek_10, qX3_seek_11, qX3_seek_12, qX3_seek_15, qX3_seek_16, qX3_seek_17, qX3_seek_20, qX3_seek_21, qX3_seek_22, qX3_seek_23, qX3_seek_24, qX3_seek_25, qX3_seek_28, Option.toList, List.nil_append]
theorem s_letterAt {τ : mm_M} (hn : n ≤ 7) (i : Int32) (d : Nat) (P : mm_O) : mm_run shC (d + 2) 26 [.ref 23, .int i, .int (nI n)] τ P = P (some (.int (if hasF (nI n) i = 0 then -1 else τ.1 25 i.toNatClampNeg))) τ := by
  rw [in_X3_letterAt]
  by_cases hz : hasF (nI n) i = 0
  · rw [if_pos hz]
    by_cases h0 : i < 0
    · simp only [qX3_letterAt_0, qX3_letterAt_1, qX3_letterAt_4, qX3_letterAt_5, qX3_letterAt_6, qX3_letterAt_9, qX3_letterAt_10, qX3_letterAt_13, qX3_letterAt_14, qX3_letterAt_17, qX3_letterAt_20, qX3_letterAt_21, h0, if_true]
    · have h2 : nI n ≤ i := by
        refine Decidable.byContradiction (fun q => ?_)
        unfold hasF at hz
        rw [if_neg h0, if_neg q] at hz
        exact absurd hz (by decide)
      simp only [qX3_letterAt_0, qX3_letterAt_1, qX3_letterAt_4, qX3_letterAt_5, qX3_letterAt_6, qX3_letterAt_9, qX3_letterAt_10, qX3_letterAt_13, qX3_letterAt_14, qX3_letterAt_17, qX3_letterAt_20, qX3_letterAt_21, h0, h2, if_true, if_false]
  · rw [if_neg hz]
    obtain ⟨l, hl, rfl⟩ := hasF_1 (by omega) hz
    have h0 : ¬ nI l < 0 := nI_neg (by omega)
    have h2 : ¬ nI n ≤ nI l := nI_ge hl (by omega)
    simp only [qX3_letterAt_0, qX3_letterAt_1, qX3_letterAt_4, qX3_letterAt_5, qX3_letterAt_6, qX3_letterAt_9, qX3_letterAt_10, qX3_letterAt_13, qX3_letterAt_14, qX3_letterAt_17, qX3_letterAt_20, qX3_letterAt_21, h0, h2, if_false, s_at_25, atF_in _ (show l < 7 by omega) (show 7 < 2 ^ 31 by decide), show (nI l).toNatClampNeg = l from nI_clamp (by omega), Option.toList, List.cons_append, List.nil_append]
theorem s_nothing {τ : mm_M} (d : Nat) (P : mm_O) : mm_run shC (d + 1) 74 [.ref 0] τ P = P (some (.int (if τ.1 11 10 = 2 ∨ τ.1 11 8 = 0 then 1 else 0))) τ := by
  rw [in_X6_nothingCanBeTried]
  by_cases h1 : τ.1 11 10 = 2
  · simp only [qX6_nothingCanBeTried_0, qX6_nothingCanBeTried_1, qX6_nothingCanBeTried_4, qX6_nothingCanBeTried_7, qX6_nothingCanBeTried_8, qX6_nothingCanBeTried_11, qX6_nothingCanBeTried_12, qX6_nothingCanBeTried_15, qX6_nothingCanBeTried_18, qX6_nothingCanBeTried_21, qX6_nothingCanBeTried_22, qX6_nothingCanBeTried_25, qX6_nothingCanBeTried_26, h1, if_true, true_or, or_true, true_and]
  · by_cases h2 : τ.1 11 8 = 0
    · simp only [qX6_nothingCanBeTried_0, qX6_nothingCanBeTried_1, qX6_nothingCanBeTried_4, qX6_nothingCanBeTried_7, qX6_nothingCanBeTried_8, qX6_nothingCanBeTried_11, qX6_nothingCanBeTried_12, qX6_nothingCanBeTried_15, qX6_nothingCanBeTried_18, qX6_nothingCanBeTried_21, qX6_nothingCanBeTried_22, qX6_nothingCanBeTried_25, qX6_nothingCanBeTried_26, h1, h2, if_true, if_false, or_true, true_and]
    · simp only [qX6_nothingCanBeTried_0, qX6_nothingCanBeTried_1, qX6_nothingCanBeTried_4, qX6_nothingCanBeTried_7, qX6_nothingCanBeTried_8, qX6_nothingCanBeTried_11, qX6_nothingCanBeTried_12, qX6_nothingCanBeTried_15, qX6_nothingCanBeTried_18, qX6_nothingCanBeTried_21, qX6_nothingCanBeTried_22, qX6_nothingCanBeTried_25, qX6_nothingCanBeTried_26, h1, h2, if_false, or_self, true_or, true_and]
end SH2
theorem call_shortest (i : Int32) : Call 58 124 [.int i] := by
  intro σ μ h
  have hI := h
  obtain ⟨n, np, h1, h2, h3, h4, h5, h6, h7⟩ := h
  have hn := h1.2.1.2.2
  have c8 := h1.2.1.1
  have m3 := h1.2.1.2.1
  have hlaw := h1.law
  by_cases hl2 : σ.1 11 10 = 2
  · refine ⟨-1000000003, σ, μ, hI, fun d P => ?_, fun d P => ?_⟩
    · rw [in_X6_shortest]
      simp only [qX6_shortest_0, qX6_shortest_1, qX6_shortest_4, qX6_shortest_7, qX6_shortest_9, qX6_shortest_10, qX6_shortest_11, qX6_shortest_14, qX6_shortest_15, qX6_shortest_18, qX6_shortest_19, qX6_shortest_22, qX6_shortest_23, qX6_shortest_24, qX6_shortest_27, qX6_shortest_28, qX6_shortest_31, qX6_shortest_34, qX6_shortest_35, qX6_shortest_36, qX6_shortest_38, qX6_shortest_41, qX6_shortest_42, qX6_shortest_45, qX6_shortest_48, qX6_shortest_51, qX6_shortest_52, qX6_shortest_55, qX6_shortest_56, qX6_shortest_57, qX6_shortest_60, qX6_shortest_63, qX6_shortest_66, s_nothing, hl2, true_or, if_true, show ¬ (1 : Int32) = 0 by decide, if_false, Option.toList, List.cons_append, List.nil_append]
    · rw [in_X7_shortest]
      simp only [qX7_shortest_0, qX7_shortest_1, qX7_shortest_4, qX7_shortest_5, qX7_shortest_8, qX7_shortest_9, qX7_shortest_12, qX7_shortest_15, qX7_shortest_18, qX7_shortest_19, qX7_shortest_20, qX7_shortest_21, qX7_shortest_24, qX7_shortest_25, qX7_shortest_26, qX7_shortest_29, qX7_shortest_30, qX7_shortest_33, qX7_shortest_34, qX7_shortest_35, qX7_shortest_38, qX7_shortest_39, qX7_shortest_42, qX7_shortest_45, qX7_shortest_46, qX7_shortest_48, qX7_shortest_51, qX7_shortest_52, qX7_shortest_55, qX7_shortest_58, qX7_shortest_59, qX7_shortest_60, qX7_shortest_61, qX7_shortest_62, qX7_shortest_65, qX7_shortest_66, qX7_shortest_67, qX7_shortest_68, qX7_shortest_71, qX7_shortest_74, qX7_shortest_75, qX7_shortest_78, qX7_shortest_79, qX7_shortest_80, qX7_shortest_83, qX7_shortest_84, ← hlaw, hl2, if_true]
  · rcases Nat.eq_zero_or_pos n with hn0 | hn0
    · subst hn0
      refine ⟨-1000000003, σ, μ, hI, fun d P => ?_, fun d P => ?_⟩
      · rw [in_X6_shortest]
        simp only [qX6_shortest_0, qX6_shortest_1, qX6_shortest_4, qX6_shortest_7, qX6_shortest_9, qX6_shortest_10, qX6_shortest_11, qX6_shortest_14, qX6_shortest_15, qX6_shortest_18, qX6_shortest_19, qX6_shortest_22, qX6_shortest_23, qX6_shortest_24, qX6_shortest_27, qX6_shortest_28, qX6_shortest_31, qX6_shortest_34, qX6_shortest_35, qX6_shortest_36, qX6_shortest_38, qX6_shortest_41, qX6_shortest_42, qX6_shortest_45, qX6_shortest_48, qX6_shortest_51, qX6_shortest_52, qX6_shortest_55, qX6_shortest_56, qX6_shortest_57, qX6_shortest_60, qX6_shortest_63, qX6_shortest_66, s_nothing, c8, show nI 0 = 0 from rfl, or_true, if_true, show ¬ (1 : Int32) = 0 by decide, if_false, Option.toList, List.cons_append, List.nil_append]
      · rw [in_X7_shortest]
        simp only [qX7_shortest_0, qX7_shortest_1, qX7_shortest_4, qX7_shortest_5, qX7_shortest_8, qX7_shortest_9, qX7_shortest_12, qX7_shortest_15, qX7_shortest_18, qX7_shortest_19, qX7_shortest_20, qX7_shortest_21, qX7_shortest_24, qX7_shortest_25, qX7_shortest_26, qX7_shortest_29, qX7_shortest_30, qX7_shortest_33, qX7_shortest_34, qX7_shortest_35, qX7_shortest_38, qX7_shortest_39, qX7_shortest_42, qX7_shortest_45, qX7_shortest_46, qX7_shortest_48, qX7_shortest_51, qX7_shortest_52, qX7_shortest_55, qX7_shortest_58, qX7_shortest_59, qX7_shortest_60, qX7_shortest_61, qX7_shortest_62, qX7_shortest_65, qX7_shortest_66, qX7_shortest_67, qX7_shortest_68, qX7_shortest_71, qX7_shortest_74, qX7_shortest_75, qX7_shortest_78, qX7_shortest_79, qX7_shortest_80, qX7_shortest_83, qX7_shortest_84, ← hlaw, hl2, if_false, m3, show nI 0 = 0 from rfl, if_true]
    · have hne : ¬ nI n = 0 := nI_ne0 hn0 (by omega)
      obtain ⟨τ, t1, t2, t3⟩ := s_seek h1 false
      obtain ⟨ν, v1, v2, v3, v4⟩ := s_MfindOrder h1 hn0 false
      have fnd := sch_found h1 hn0 hl2
      generalize sch_F n (WK σ) (FS σ n) (DU σ) false none 0 (n ^ n) = s at t2 v3 v4 fnd
      have agC : AgC σ τ := fun k hk => t1 k (by omega) (by omega) (by omega)
      have agM : AgM μ ν := ⟨fun k hk => v1 k (by omega) (by omega) (by omega) (by omega), fun j hj => v2 j (by omega) (by omega)⟩
      have T8 : τ.1 11 8 = nI n := by rw [agC 11 (by omega)]; exact c8
      have V3 : ν.1 0 3 = nI n := by rw [v2 3 (by decide) (by decide)]; exact m3
      have t3 : ∀ (d : Nat) (P : mm_O), mm_run shC (d + 39) 25 [.ref 23, .ref 11, .int 0] σ P = P none τ := t3
      have v4 : ∀ (d : Nat) (P : mm_O), mm_run shM (d + 4) 123 [.ref 0, .int 0] μ P = P (some (.int (fI s))) ν := v4
      cases s with
      | none => exact absurd rfl fnd
      | some x =>
        obtain ⟨w, st, c⟩ := x
        have tf : τ.1 23 3 = 1 := t2.2.1
        obtain ⟨r4, r5, r6⟩ := t2.2.2 w st c rfl
        obtain ⟨q4, q5, q6⟩ := v3
        have q4 : ν.1 0 33 = nI w := q4
        have q5 : ν.1 0 34 = nI st := q5
        have q6 := q6 w st c rfl
        have f1 : fI (some (w, st, c)) = 1 := rfl
        by_cases h1i : i = -1
        · subst h1i
          refine ⟨nI w, τ, ν, hI.ag agC agM, fun d P => ?_, fun d P => ?_⟩
          · rw [in_X6_shortest]
            simp only [qX6_shortest_0, qX6_shortest_1, qX6_shortest_4, qX6_shortest_7, qX6_shortest_9, qX6_shortest_10, qX6_shortest_11, qX6_shortest_14, qX6_shortest_15, qX6_shortest_18, qX6_shortest_19, qX6_shortest_22, qX6_shortest_23, qX6_shortest_24, qX6_shortest_27, qX6_shortest_28, qX6_shortest_31, qX6_shortest_34, qX6_shortest_35, qX6_shortest_36, qX6_shortest_38, qX6_shortest_41, qX6_shortest_42, qX6_shortest_45, qX6_shortest_48, qX6_shortest_51, qX6_shortest_52, qX6_shortest_55, qX6_shortest_56, qX6_shortest_57, qX6_shortest_60, qX6_shortest_63, qX6_shortest_66, s_nothing, c8, hl2, hne, or_self, if_false, if_true, t3, tf, show ¬ (1 : Int32) = 0 by decide, r4, r5, Option.toList, List.cons_append, List.nil_append]
          · rw [in_X7_shortest]
            simp only [qX7_shortest_0, qX7_shortest_1, qX7_shortest_4, qX7_shortest_5, qX7_shortest_8, qX7_shortest_9, qX7_shortest_12, qX7_shortest_15, qX7_shortest_18, qX7_shortest_19, qX7_shortest_20, qX7_shortest_21, qX7_shortest_24, qX7_shortest_25, qX7_shortest_26, qX7_shortest_29, qX7_shortest_30, qX7_shortest_33, qX7_shortest_34, qX7_shortest_35, qX7_shortest_38, qX7_shortest_39, qX7_shortest_42, qX7_shortest_45, qX7_shortest_46, qX7_shortest_48, qX7_shortest_51, qX7_shortest_52, qX7_shortest_55, qX7_shortest_58, qX7_shortest_59, qX7_shortest_60, qX7_shortest_61, qX7_shortest_62, qX7_shortest_65, qX7_shortest_66, qX7_shortest_67, qX7_shortest_68, qX7_shortest_71, qX7_shortest_74, qX7_shortest_75, qX7_shortest_78, qX7_shortest_79, qX7_shortest_80, qX7_shortest_83, qX7_shortest_84, ← hlaw, hl2, m3, hne, if_false, if_true, v4, f1, show ¬ (1 : Int32) = 0 by decide, q4, q5, Option.toList, List.cons_append, List.nil_append]
        · by_cases h2i : i = -2
          · subst h2i
            refine ⟨nI st, τ, ν, hI.ag agC agM, fun d P => ?_, fun d P => ?_⟩
            · rw [in_X6_shortest]
              simp only [qX6_shortest_0, qX6_shortest_1, qX6_shortest_4, qX6_shortest_7, qX6_shortest_9, qX6_shortest_10, qX6_shortest_11, qX6_shortest_14, qX6_shortest_15, qX6_shortest_18, qX6_shortest_19, qX6_shortest_22, qX6_shortest_23, qX6_shortest_24, qX6_shortest_27, qX6_shortest_28, qX6_shortest_31, qX6_shortest_34, qX6_shortest_35, qX6_shortest_36, qX6_shortest_38, qX6_shortest_41, qX6_shortest_42, qX6_shortest_45, qX6_shortest_48, qX6_shortest_51, qX6_shortest_52, qX6_shortest_55, qX6_shortest_56, qX6_shortest_57, qX6_shortest_60, qX6_shortest_63, qX6_shortest_66, s_nothing, c8, hl2, hne, or_self, if_false, if_true, t3, tf, h1i, show ¬ (1 : Int32) = 0 by decide, r4, r5, Option.toList, List.cons_append, List.nil_append]
            · rw [in_X7_shortest]
              simp only [qX7_shortest_0, qX7_shortest_1, qX7_shortest_4, qX7_shortest_5, qX7_shortest_8, qX7_shortest_9, qX7_shortest_12, qX7_shortest_15, qX7_shortest_18, qX7_shortest_19, qX7_shortest_20, qX7_shortest_21, qX7_shortest_24, qX7_shortest_25, qX7_shortest_26, qX7_shortest_29, qX7_shortest_30, qX7_shortest_33, qX7_shortest_34, qX7_shortest_35, qX7_shortest_38, qX7_shortest_39, qX7_shortest_42, qX7_shortest_45, qX7_shortest_46, qX7_shortest_48, qX7_shortest_51, qX7_shortest_52, qX7_shortest_55, qX7_shortest_58, qX7_shortest_59, qX7_shortest_60, qX7_shortest_61, qX7_shortest_62, qX7_shortest_65, qX7_shortest_66, qX7_shortest_67, qX7_shortest_68, qX7_shortest_71, qX7_shortest_74, qX7_shortest_75, qX7_shortest_78, qX7_shortest_79, qX7_shortest_80, qX7_shortest_83, qX7_shortest_84, ← hlaw, hl2, m3, hne, if_false, if_true, v4, f1, h1i, show ¬ (1 : Int32) = 0 by decide, q4, q5, Option.toList, List.cons_append, List.nil_append]
          · have hin := in_has (n := n) (by omega) i
            by_cases hz : hasF (nI n) i = 0
            · rw [hz] at hin
              refine ⟨-1, τ, ν, hI.ag agC agM, fun d P => ?_, fun d P => ?_⟩
              · rw [in_X6_shortest]
                simp only [qX6_shortest_0, qX6_shortest_1, qX6_shortest_4, qX6_shortest_7, qX6_shortest_9, qX6_shortest_10, qX6_shortest_11, qX6_shortest_14, qX6_shortest_15, qX6_shortest_18, qX6_shortest_19, qX6_shortest_22, qX6_shortest_23, qX6_shortest_24, qX6_shortest_27, qX6_shortest_28, qX6_shortest_31, qX6_shortest_34, qX6_shortest_35, qX6_shortest_36, qX6_shortest_38, qX6_shortest_41, qX6_shortest_42, qX6_shortest_45, qX6_shortest_48, qX6_shortest_51, qX6_shortest_52, qX6_shortest_55, qX6_shortest_56, qX6_shortest_57, qX6_shortest_60, qX6_shortest_63, qX6_shortest_66, s_nothing, c8, hl2, hne, or_self, if_false, if_true, t3, tf, h1i, h2i, T8, s_letterAt hn, hz, show ¬ (1 : Int32) = 0 by decide, Option.toList, List.cons_append, List.nil_append]
              · rw [in_X7_shortest]
                simp only [qX7_shortest_0, qX7_shortest_1, qX7_shortest_4, qX7_shortest_5, qX7_shortest_8, qX7_shortest_9, qX7_shortest_12, qX7_shortest_15, qX7_shortest_18, qX7_shortest_19, qX7_shortest_20, qX7_shortest_21, qX7_shortest_24, qX7_shortest_25, qX7_shortest_26, qX7_shortest_29, qX7_shortest_30, qX7_shortest_33, qX7_shortest_34, qX7_shortest_35, qX7_shortest_38, qX7_shortest_39, qX7_shortest_42, qX7_shortest_45, qX7_shortest_46, qX7_shortest_48, qX7_shortest_51, qX7_shortest_52, qX7_shortest_55, qX7_shortest_58, qX7_shortest_59, qX7_shortest_60, qX7_shortest_61, qX7_shortest_62, qX7_shortest_65, qX7_shortest_66, qX7_shortest_67, qX7_shortest_68, qX7_shortest_71, qX7_shortest_74, qX7_shortest_75, qX7_shortest_78, qX7_shortest_79, qX7_shortest_80, qX7_shortest_83, qX7_shortest_84, ← hlaw, hl2, m3, hne, if_false, if_true, v4, f1, h1i, h2i, V3, s_Min, hin, show ¬ (1 : Int32) = 0 by decide, Option.toList, List.cons_append, List.nil_append]
            · have hz1 : hasF (nI n) i = 1 := by
                unfold hasF at hz ⊢
                by_cases a : i < 0
                · rw [if_pos a] at hz; exact absurd rfl hz
                · rw [if_neg a] at hz ⊢
                  by_cases b : nI n ≤ i
                  · rw [if_pos b] at hz; exact absurd rfl hz
                  · rw [if_neg b]
              rw [hz1] at hin
              obtain ⟨l, hl, rfl⟩ := hasF_1 (by omega) hz
              have hlc : (nI l).toNatClampNeg = l := nI_clamp (by omega)
              refine ⟨nI (dgF n c l), τ, ν, hI.ag agC agM, fun d P => ?_, fun d P => ?_⟩
              · rw [in_X6_shortest]
                simp only [qX6_shortest_0, qX6_shortest_1, qX6_shortest_4, qX6_shortest_7, qX6_shortest_9, qX6_shortest_10, qX6_shortest_11, qX6_shortest_14, qX6_shortest_15, qX6_shortest_18, qX6_shortest_19, qX6_shortest_22, qX6_shortest_23, qX6_shortest_24, qX6_shortest_27, qX6_shortest_28, qX6_shortest_31, qX6_shortest_34, qX6_shortest_35, qX6_shortest_36, qX6_shortest_38, qX6_shortest_41, qX6_shortest_42, qX6_shortest_45, qX6_shortest_48, qX6_shortest_51, qX6_shortest_52, qX6_shortest_55, qX6_shortest_56, qX6_shortest_57, qX6_shortest_60, qX6_shortest_63, qX6_shortest_66, s_nothing, c8, hl2, hne, or_self, if_false, if_true, t3, tf, h1i, h2i, T8, s_letterAt hn, hz, hlc, r6 l hl, show ¬ (1 : Int32) = 0 by decide, Option.toList, List.cons_append, List.nil_append]
              · rw [in_X7_shortest]
                simp only [qX7_shortest_0, qX7_shortest_1, qX7_shortest_4, qX7_shortest_5, qX7_shortest_8, qX7_shortest_9, qX7_shortest_12, qX7_shortest_15, qX7_shortest_18, qX7_shortest_19, qX7_shortest_20, qX7_shortest_21, qX7_shortest_24, qX7_shortest_25, qX7_shortest_26, qX7_shortest_29, qX7_shortest_30, qX7_shortest_33, qX7_shortest_34, qX7_shortest_35, qX7_shortest_38, qX7_shortest_39, qX7_shortest_42, qX7_shortest_45, qX7_shortest_46, qX7_shortest_48, qX7_shortest_51, qX7_shortest_52, qX7_shortest_55, qX7_shortest_58, qX7_shortest_59, qX7_shortest_60, qX7_shortest_61, qX7_shortest_62, qX7_shortest_65, qX7_shortest_66, qX7_shortest_67, qX7_shortest_68, qX7_shortest_71, qX7_shortest_74, qX7_shortest_75, qX7_shortest_78, qX7_shortest_79, qX7_shortest_80, qX7_shortest_83, qX7_shortest_84, ← hlaw, hl2, m3, hne, if_false, if_true, v4, f1, h1i, h2i, V3, s_Min, hin, show vp_in (nI l) 7 from vp_in_nI (by omega) (by decide), hlc, q6 l hl, true_and, show ¬ (1 : Int32) = 0 by decide, Option.toList, List.cons_append, List.nil_append]
theorem call_inTime (i : Int32) : Call 59 125 [.int i] := by
  intro σ μ h
  have hI := h
  obtain ⟨n, np, h1, h2, h3, h4, h5, h6, h7⟩ := h
  have hn := h1.2.1.2.2
  have c8 := h1.2.1.1
  have m3 := h1.2.1.2.1
  have hlaw := h1.law
  by_cases hl2 : σ.1 11 10 = 2
  · refine ⟨-1000000003, σ, μ, hI, fun d P => ?_, fun d P => ?_⟩
    · rw [in_X6_inTime]
      simp only [qX6_inTime_0, qX6_inTime_1, qX6_inTime_4, qX6_inTime_7, qX6_inTime_9, qX6_inTime_10, qX6_inTime_11, qX6_inTime_14, qX6_inTime_15, qX6_inTime_18, qX6_inTime_19, qX6_inTime_22, qX6_inTime_23, qX6_inTime_26, qX6_inTime_29, qX6_inTime_32, qX6_inTime_33, qX6_inTime_34, qX6_inTime_35, qX6_inTime_36, qX6_inTime_39, qX6_inTime_40, qX6_inTime_43, qX6_inTime_46, qX6_inTime_47, qX6_inTime_48, qX6_inTime_50, qX6_inTime_53, qX6_inTime_54, qX6_inTime_57, qX6_inTime_60, qX6_inTime_63, qX6_inTime_64, qX6_inTime_67, qX6_inTime_68, qX6_inTime_69, qX6_inTime_72, qX6_inTime_75, qX6_inTime_78, s_nothing, hl2, true_or, if_true, show ¬ (1 : Int32) = 0 by decide, if_false, Option.toList, List.cons_append, List.nil_append]
    · rw [in_X7_inTime]
      simp only [qX7_inTime_0, qX7_inTime_1, qX7_inTime_4, qX7_inTime_5, qX7_inTime_8, qX7_inTime_9, qX7_inTime_12, qX7_inTime_15, qX7_inTime_18, qX7_inTime_19, qX7_inTime_20, qX7_inTime_21, qX7_inTime_24, qX7_inTime_25, qX7_inTime_26, qX7_inTime_29, qX7_inTime_30, qX7_inTime_33, qX7_inTime_34, qX7_inTime_35, qX7_inTime_38, qX7_inTime_39, qX7_inTime_42, qX7_inTime_45, qX7_inTime_46, qX7_inTime_48, qX7_inTime_51, qX7_inTime_52, qX7_inTime_55, qX7_inTime_58, qX7_inTime_59, qX7_inTime_60, qX7_inTime_61, qX7_inTime_62, qX7_inTime_65, qX7_inTime_66, qX7_inTime_67, qX7_inTime_68, qX7_inTime_71, qX7_inTime_74, qX7_inTime_75, qX7_inTime_78, qX7_inTime_79, qX7_inTime_80, qX7_inTime_83, qX7_inTime_84, ← hlaw, hl2, if_true]
  · rcases Nat.eq_zero_or_pos n with hn0 | hn0
    · subst hn0
      refine ⟨-1000000003, σ, μ, hI, fun d P => ?_, fun d P => ?_⟩
      · rw [in_X6_inTime]
        simp only [qX6_inTime_0, qX6_inTime_1, qX6_inTime_4, qX6_inTime_7, qX6_inTime_9, qX6_inTime_10, qX6_inTime_11, qX6_inTime_14, qX6_inTime_15, qX6_inTime_18, qX6_inTime_19, qX6_inTime_22, qX6_inTime_23, qX6_inTime_26, qX6_inTime_29, qX6_inTime_32, qX6_inTime_33, qX6_inTime_34, qX6_inTime_35, qX6_inTime_36, qX6_inTime_39, qX6_inTime_40, qX6_inTime_43, qX6_inTime_46, qX6_inTime_47, qX6_inTime_48, qX6_inTime_50, qX6_inTime_53, qX6_inTime_54, qX6_inTime_57, qX6_inTime_60, qX6_inTime_63, qX6_inTime_64, qX6_inTime_67, qX6_inTime_68, qX6_inTime_69, qX6_inTime_72, qX6_inTime_75, qX6_inTime_78, s_nothing, c8, show nI 0 = 0 from rfl, or_true, if_true, show ¬ (1 : Int32) = 0 by decide, if_false, Option.toList, List.cons_append, List.nil_append]
      · rw [in_X7_inTime]
        simp only [qX7_inTime_0, qX7_inTime_1, qX7_inTime_4, qX7_inTime_5, qX7_inTime_8, qX7_inTime_9, qX7_inTime_12, qX7_inTime_15, qX7_inTime_18, qX7_inTime_19, qX7_inTime_20, qX7_inTime_21, qX7_inTime_24, qX7_inTime_25, qX7_inTime_26, qX7_inTime_29, qX7_inTime_30, qX7_inTime_33, qX7_inTime_34, qX7_inTime_35, qX7_inTime_38, qX7_inTime_39, qX7_inTime_42, qX7_inTime_45, qX7_inTime_46, qX7_inTime_48, qX7_inTime_51, qX7_inTime_52, qX7_inTime_55, qX7_inTime_58, qX7_inTime_59, qX7_inTime_60, qX7_inTime_61, qX7_inTime_62, qX7_inTime_65, qX7_inTime_66, qX7_inTime_67, qX7_inTime_68, qX7_inTime_71, qX7_inTime_74, qX7_inTime_75, qX7_inTime_78, qX7_inTime_79, qX7_inTime_80, qX7_inTime_83, qX7_inTime_84, ← hlaw, hl2, if_false, m3, show nI 0 = 0 from rfl, if_true]
    · have hne : ¬ nI n = 0 := nI_ne0 hn0 (by omega)
      obtain ⟨τ, t1, t2, t3⟩ := s_seek h1 true
      obtain ⟨ν, v1, v2, v3, v4⟩ := s_MfindOrder h1 hn0 true
      generalize sch_F n (WK σ) (FS σ n) (DU σ) true none 0 (n ^ n) = s at t2 v3 v4
      have agC : AgC σ τ := fun k hk => t1 k (by omega) (by omega) (by omega)
      have agM : AgM μ ν := ⟨fun k hk => v1 k (by omega) (by omega) (by omega) (by omega), fun j hj => v2 j (by omega) (by omega)⟩
      have T8 : τ.1 11 8 = nI n := by rw [agC 11 (by omega)]; exact c8
      have V3 : ν.1 0 3 = nI n := by rw [v2 3 (by decide) (by decide)]; exact m3
      have t3 : ∀ (d : Nat) (P : mm_O), mm_run shC (d + 39) 25 [.ref 23, .ref 11, .int 1] σ P = P none τ := t3
      have v4 : ∀ (d : Nat) (P : mm_O), mm_run shM (d + 4) 123 [.ref 0, .int 1] μ P = P (some (.int (fI s))) ν := v4
      cases s with
      | none => 
        have tf : τ.1 23 3 = 0 := t2.2.1
        have f0 : fI none = 0 := rfl
        refine ⟨-1, τ, ν, hI.ag agC agM, fun d P => ?_, fun d P => ?_⟩
        · rw [in_X6_inTime]
          simp only [qX6_inTime_0, qX6_inTime_1, qX6_inTime_4, qX6_inTime_7, qX6_inTime_9, qX6_inTime_10, qX6_inTime_11, qX6_inTime_14, qX6_inTime_15, qX6_inTime_18, qX6_inTime_19, qX6_inTime_22, qX6_inTime_23, qX6_inTime_26, qX6_inTime_29, qX6_inTime_32, qX6_inTime_33, qX6_inTime_34, qX6_inTime_35, qX6_inTime_36, qX6_inTime_39, qX6_inTime_40, qX6_inTime_43, qX6_inTime_46, qX6_inTime_47, qX6_inTime_48, qX6_inTime_50, qX6_inTime_53, qX6_inTime_54, qX6_inTime_57, qX6_inTime_60, qX6_inTime_63, qX6_inTime_64, qX6_inTime_67, qX6_inTime_68, qX6_inTime_69, qX6_inTime_72, qX6_inTime_75, qX6_inTime_78, s_nothing, c8, hl2, hne, or_self, if_false, if_true, t3, tf, Option.toList, List.cons_append, List.nil_append]
        · rw [in_X7_inTime]
          simp only [qX7_inTime_0, qX7_inTime_1, qX7_inTime_4, qX7_inTime_5, qX7_inTime_8, qX7_inTime_9, qX7_inTime_12, qX7_inTime_15, qX7_inTime_18, qX7_inTime_19, qX7_inTime_20, qX7_inTime_21, qX7_inTime_24, qX7_inTime_25, qX7_inTime_26, qX7_inTime_29, qX7_inTime_30, qX7_inTime_33, qX7_inTime_34, qX7_inTime_35, qX7_inTime_38, qX7_inTime_39, qX7_inTime_42, qX7_inTime_45, qX7_inTime_46, qX7_inTime_48, qX7_inTime_51, qX7_inTime_52, qX7_inTime_55, qX7_inTime_58, qX7_inTime_59, qX7_inTime_60, qX7_inTime_61, qX7_inTime_62, qX7_inTime_65, qX7_inTime_66, qX7_inTime_67, qX7_inTime_68, qX7_inTime_71, qX7_inTime_74, qX7_inTime_75, qX7_inTime_78, qX7_inTime_79, qX7_inTime_80, qX7_inTime_83, qX7_inTime_84, ← hlaw, hl2, m3, hne, if_false, if_true, v4, f0, Option.toList, List.cons_append, List.nil_append]
      | some x =>
        obtain ⟨w, st, c⟩ := x
        have tf : τ.1 23 3 = 1 := t2.2.1
        obtain ⟨r4, r5, r6⟩ := t2.2.2 w st c rfl
        obtain ⟨q4, q5, q6⟩ := v3
        have q4 : ν.1 0 33 = nI w := q4
        have q5 : ν.1 0 34 = nI st := q5
        have q6 := q6 w st c rfl
        have f1 : fI (some (w, st, c)) = 1 := rfl
        by_cases h1i : i = -1
        · subst h1i
          refine ⟨nI st, τ, ν, hI.ag agC agM, fun d P => ?_, fun d P => ?_⟩
          · rw [in_X6_inTime]
            simp only [qX6_inTime_0, qX6_inTime_1, qX6_inTime_4, qX6_inTime_7, qX6_inTime_9, qX6_inTime_10, qX6_inTime_11, qX6_inTime_14, qX6_inTime_15, qX6_inTime_18, qX6_inTime_19, qX6_inTime_22, qX6_inTime_23, qX6_inTime_26, qX6_inTime_29, qX6_inTime_32, qX6_inTime_33, qX6_inTime_34, qX6_inTime_35, qX6_inTime_36, qX6_inTime_39, qX6_inTime_40, qX6_inTime_43, qX6_inTime_46, qX6_inTime_47, qX6_inTime_48, qX6_inTime_50, qX6_inTime_53, qX6_inTime_54, qX6_inTime_57, qX6_inTime_60, qX6_inTime_63, qX6_inTime_64, qX6_inTime_67, qX6_inTime_68, qX6_inTime_69, qX6_inTime_72, qX6_inTime_75, qX6_inTime_78, s_nothing, c8, hl2, hne, or_self, if_false, if_true, t3, tf, show ¬ (1 : Int32) = 0 by decide, r4, r5, Option.toList, List.cons_append, List.nil_append]
          · rw [in_X7_inTime]
            simp only [qX7_inTime_0, qX7_inTime_1, qX7_inTime_4, qX7_inTime_5, qX7_inTime_8, qX7_inTime_9, qX7_inTime_12, qX7_inTime_15, qX7_inTime_18, qX7_inTime_19, qX7_inTime_20, qX7_inTime_21, qX7_inTime_24, qX7_inTime_25, qX7_inTime_26, qX7_inTime_29, qX7_inTime_30, qX7_inTime_33, qX7_inTime_34, qX7_inTime_35, qX7_inTime_38, qX7_inTime_39, qX7_inTime_42, qX7_inTime_45, qX7_inTime_46, qX7_inTime_48, qX7_inTime_51, qX7_inTime_52, qX7_inTime_55, qX7_inTime_58, qX7_inTime_59, qX7_inTime_60, qX7_inTime_61, qX7_inTime_62, qX7_inTime_65, qX7_inTime_66, qX7_inTime_67, qX7_inTime_68, qX7_inTime_71, qX7_inTime_74, qX7_inTime_75, qX7_inTime_78, qX7_inTime_79, qX7_inTime_80, qX7_inTime_83, qX7_inTime_84, ← hlaw, hl2, m3, hne, if_false, if_true, v4, f1, show ¬ (1 : Int32) = 0 by decide, q4, q5, Option.toList, List.cons_append, List.nil_append]
        · by_cases h2i : i = -2
          · subst h2i
            refine ⟨nI w, τ, ν, hI.ag agC agM, fun d P => ?_, fun d P => ?_⟩
            · rw [in_X6_inTime]
              simp only [qX6_inTime_0, qX6_inTime_1, qX6_inTime_4, qX6_inTime_7, qX6_inTime_9, qX6_inTime_10, qX6_inTime_11, qX6_inTime_14, qX6_inTime_15, qX6_inTime_18, qX6_inTime_19, qX6_inTime_22, qX6_inTime_23, qX6_inTime_26, qX6_inTime_29, qX6_inTime_32, qX6_inTime_33, qX6_inTime_34, qX6_inTime_35, qX6_inTime_36, qX6_inTime_39, qX6_inTime_40, qX6_inTime_43, qX6_inTime_46, qX6_inTime_47, qX6_inTime_48, qX6_inTime_50, qX6_inTime_53, qX6_inTime_54, qX6_inTime_57, qX6_inTime_60, qX6_inTime_63, qX6_inTime_64, qX6_inTime_67, qX6_inTime_68, qX6_inTime_69, qX6_inTime_72, qX6_inTime_75, qX6_inTime_78, s_nothing, c8, hl2, hne, or_self, if_false, if_true, t3, tf, h1i, show ¬ (1 : Int32) = 0 by decide, r4, r5, Option.toList, List.cons_append, List.nil_append]
            · rw [in_X7_inTime]
              simp only [qX7_inTime_0, qX7_inTime_1, qX7_inTime_4, qX7_inTime_5, qX7_inTime_8, qX7_inTime_9, qX7_inTime_12, qX7_inTime_15, qX7_inTime_18, qX7_inTime_19, qX7_inTime_20, qX7_inTime_21, qX7_inTime_24, qX7_inTime_25, qX7_inTime_26, qX7_inTime_29, qX7_inTime_30, qX7_inTime_33, qX7_inTime_34, qX7_inTime_35, qX7_inTime_38, qX7_inTime_39, qX7_inTime_42, qX7_inTime_45, qX7_inTime_46, qX7_inTime_48, qX7_inTime_51, qX7_inTime_52, qX7_inTime_55, qX7_inTime_58, qX7_inTime_59, qX7_inTime_60, qX7_inTime_61, qX7_inTime_62, qX7_inTime_65, qX7_inTime_66, qX7_inTime_67, qX7_inTime_68, qX7_inTime_71, qX7_inTime_74, qX7_inTime_75, qX7_inTime_78, qX7_inTime_79, qX7_inTime_80, qX7_inTime_83, qX7_inTime_84, ← hlaw, hl2, m3, hne, if_false, if_true, v4, f1, h1i, show ¬ (1 : Int32) = 0 by decide, q4, q5, Option.toList, List.cons_append, List.nil_append]
          · have hin := in_has (n := n) (by omega) i
            by_cases hz : hasF (nI n) i = 0
            · rw [hz] at hin
              refine ⟨-1, τ, ν, hI.ag agC agM, fun d P => ?_, fun d P => ?_⟩
              · rw [in_X6_inTime]
                simp only [qX6_inTime_0, qX6_inTime_1, qX6_inTime_4, qX6_inTime_7, qX6_inTime_9, qX6_inTime_10, qX6_inTime_11, qX6_inTime_14, qX6_inTime_15, qX6_inTime_18, qX6_inTime_19, qX6_inTime_22, qX6_inTime_23, qX6_inTime_26, qX6_inTime_29, qX6_inTime_32, qX6_inTime_33, qX6_inTime_34, qX6_inTime_35, qX6_inTime_36, qX6_inTime_39, qX6_inTime_40, qX6_inTime_43, qX6_inTime_46, qX6_inTime_47, qX6_inTime_48, qX6_inTime_50, qX6_inTime_53, qX6_inTime_54, qX6_inTime_57, qX6_inTime_60, qX6_inTime_63, qX6_inTime_64, qX6_inTime_67, qX6_inTime_68, qX6_inTime_69, qX6_inTime_72, qX6_inTime_75, qX6_inTime_78, s_nothing, c8, hl2, hne, or_self, if_false, if_true, t3, tf, h1i, h2i, T8, s_letterAt hn, hz, show ¬ (1 : Int32) = 0 by decide, Option.toList, List.cons_append, List.nil_append]
              · rw [in_X7_inTime]
                simp only [qX7_inTime_0, qX7_inTime_1, qX7_inTime_4, qX7_inTime_5, qX7_inTime_8, qX7_inTime_9, qX7_inTime_12, qX7_inTime_15, qX7_inTime_18, qX7_inTime_19, qX7_inTime_20, qX7_inTime_21, qX7_inTime_24, qX7_inTime_25, qX7_inTime_26, qX7_inTime_29, qX7_inTime_30, qX7_inTime_33, qX7_inTime_34, qX7_inTime_35, qX7_inTime_38, qX7_inTime_39, qX7_inTime_42, qX7_inTime_45, qX7_inTime_46, qX7_inTime_48, qX7_inTime_51, qX7_inTime_52, qX7_inTime_55, qX7_inTime_58, qX7_inTime_59, qX7_inTime_60, qX7_inTime_61, qX7_inTime_62, qX7_inTime_65, qX7_inTime_66, qX7_inTime_67, qX7_inTime_68, qX7_inTime_71, qX7_inTime_74, qX7_inTime_75, qX7_inTime_78, qX7_inTime_79, qX7_inTime_80, qX7_inTime_83, qX7_inTime_84, ← hlaw, hl2, m3, hne, if_false, if_true, v4, f1, h1i, h2i, V3, s_Min, hin, show ¬ (1 : Int32) = 0 by decide, Option.toList, List.cons_append, List.nil_append]
            · have hz1 : hasF (nI n) i = 1 := by
                unfold hasF at hz ⊢
                by_cases a : i < 0
                · rw [if_pos a] at hz; exact absurd rfl hz
                · rw [if_neg a] at hz ⊢
                  by_cases b : nI n ≤ i
                  · rw [if_pos b] at hz; exact absurd rfl hz
                  · rw [if_neg b]
              rw [hz1] at hin
              obtain ⟨l, hl, rfl⟩ := hasF_1 (by omega) hz
              have hlc : (nI l).toNatClampNeg = l := nI_clamp (by omega)
              refine ⟨nI (dgF n c l), τ, ν, hI.ag agC agM, fun d P => ?_, fun d P => ?_⟩
              · rw [in_X6_inTime]
                simp only [qX6_inTime_0, qX6_inTime_1, qX6_inTime_4, qX6_inTime_7, qX6_inTime_9, qX6_inTime_10, qX6_inTime_11, qX6_inTime_14, qX6_inTime_15, qX6_inTime_18, qX6_inTime_19, qX6_inTime_22, qX6_inTime_23, qX6_inTime_26, qX6_inTime_29, qX6_inTime_32, qX6_inTime_33, qX6_inTime_34, qX6_inTime_35, qX6_inTime_36, qX6_inTime_39, qX6_inTime_40, qX6_inTime_43, qX6_inTime_46, qX6_inTime_47, qX6_inTime_48, qX6_inTime_50, qX6_inTime_53, qX6_inTime_54, qX6_inTime_57, qX6_inTime_60, qX6_inTime_63, qX6_inTime_64, qX6_inTime_67, qX6_inTime_68, qX6_inTime_69, qX6_inTime_72, qX6_inTime_75, qX6_inTime_78, s_nothing, c8, hl2, hne, or_self, if_false, if_true, t3, tf, h1i, h2i, T8, s_letterAt hn, hz, hlc, r6 l hl, show ¬ (1 : Int32) = 0 by decide, Option.toList, List.cons_append, List.nil_append]
              · rw [in_X7_inTime]
                simp only [qX7_inTime_0, qX7_inTime_1, qX7_inTime_4, qX7_inTime_5, qX7_inTime_8, qX7_inTime_9, qX7_inTime_12, qX7_inTime_15, qX7_inTime_18, qX7_inTime_19, qX7_inTime_20, qX7_inTime_21, qX7_inTime_24, qX7_inTime_25, qX7_inTime_26, qX7_inTime_29, qX7_inTime_30, qX7_inTime_33, qX7_inTime_34, qX7_inTime_35, qX7_inTime_38, qX7_inTime_39, qX7_inTime_42, qX7_inTime_45, qX7_inTime_46, qX7_inTime_48, qX7_inTime_51, qX7_inTime_52, qX7_inTime_55, qX7_inTime_58, qX7_inTime_59, qX7_inTime_60, qX7_inTime_61, qX7_inTime_62, qX7_inTime_65, qX7_inTime_66, qX7_inTime_67, qX7_inTime_68, qX7_inTime_71, qX7_inTime_74, qX7_inTime_75, qX7_inTime_78, qX7_inTime_79, qX7_inTime_80, qX7_inTime_83, qX7_inTime_84, ← hlaw, hl2, m3, hne, if_false, if_true, v4, f1, h1i, h2i, V3, s_Min, hin, show vp_in (nI l) 7 from vp_in_nI (by omega) (by decide), hlc, q6 l hl, true_and, show ¬ (1 : Int32) = 0 by decide, Option.toList, List.cons_append, List.nil_append]
