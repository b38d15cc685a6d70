/-! CALLS: seed, law, price, stones, tear, write -/
theorem in_yes {w : Int32} {a b : Nat} {A B : Int64} (hA : (nI a).toInt64 = A) (hB : (nI b).toInt64 = B) (hb : b < 2 ^ 31) (h : rg w a b) : A ≤ w.toInt64 ∧ w.toInt64 ≤ B := by
  obtain ⟨k, h1, h2, rfl⟩ := h
  rw [← hA, ← hB, i2l_le, i2l_le]
  exact ⟨nI_le h1 (by omega), nI_le h2 hb⟩
theorem in_no {w : Int32} {a b : Nat} {A B : Int64} (hA : (nI a).toInt64 = A) (hB : (nI b).toInt64 = B) (ha : a < 2 ^ 31) (hb : b < 2 ^ 31) (h : ¬ rg w a b) : ¬ (A ≤ w.toInt64 ∧ w.toInt64 ≤ B) := by
  rw [← hA, ← hB, i2l_le, i2l_le]
  rintro ⟨h1, h2⟩
  have h0 : ¬ w < 0 := by
    rw [Int32.le_iff_toInt_le, nI_toInt ha] at h1
    rw [Int32.lt_iff_toInt_lt]
    have : (0 : Int32).toInt = 0 := rfl
    omega
  obtain ⟨k, hk, rfl⟩ := nI_of h0
  exact h ⟨k, (nI_leI ha hk).mp h1, (nI_leI hk hb).mp h2, rfl⟩
theorem call_seed (v : Int32) : Call 70 141 [.int v] := by
  intro σ μ h
  have hI := h
  obtain ⟨n, np, h1, h2, h3, h4, h5, h6, h7⟩ := h
  by_cases hv : 0 ≤ v
  · refine ⟨σ.1 11 11, mm_sti σ 11 11 v, mm_sti μ 0 11 v, ⟨n, np, ?_, by simpa [TxR, mm_sti_set, mm_set_1, upd_1] using h2, by simpa [mm_sti_set, mm_set_1, upd_1] using h3, by simpa [CmR, mm_sti_set, mm_set_1, upd_1] using h4, by simpa [BkR, mm_sti_set, mm_set_1, upd_1] using h5, by simpa [ImR, mm_sti_set, mm_set_1, upd_1] using h6, by simpa [ImR, mm_sti_set, mm_set_1, upd_1] using h7⟩, fun d P => ?_, fun d P => ?_⟩
    · unfold TwR at h1 ⊢
      simp only [mm_sti_set, mm_set_1, upd_1, Nat.reduceEqDiff, if_true, if_false]
      obtain ⟨q1, q2, q3, q4, q5, q6, q7⟩ := h1
      exact ⟨q1, q2, q3, q4, q5, q6, trivial, Int32.not_lt.mpr hv⟩
    · rw [in_X6_seed]
      simp only [qX6_seed_0, qX6_seed_1, qX6_seed_4, qX6_seed_6, qX6_seed_7, qX6_seed_8, qX6_seed_11, qX6_seed_14, qX6_seed_15, qX6_seed_16, qX6_seed_19, qX6_seed_20, qX6_seed_23, qX6_seed_24, hv, if_true]
    · rw [in_X7_seed]
      simp only [qX7_seed_0, qX7_seed_1, qX7_seed_4, qX7_seed_6, qX7_seed_7, qX7_seed_8, qX7_seed_11, qX7_seed_12, qX7_seed_13, qX7_seed_14, qX7_seed_17, qX7_seed_18, hv, if_true, h1.2.2.2.2.2.2.1]
  · refine ⟨-1000000002, σ, μ, hI, fun d P => ?_, fun d P => ?_⟩
    · rw [in_X6_seed]
      simp only [qX6_seed_0, qX6_seed_1, qX6_seed_4, qX6_seed_6, qX6_seed_7, qX6_seed_8, qX6_seed_11, qX6_seed_14, qX6_seed_15, qX6_seed_16, qX6_seed_19, qX6_seed_20, qX6_seed_23, qX6_seed_24, hv, if_false]
    · rw [in_X7_seed]
      simp only [qX7_seed_0, qX7_seed_1, qX7_seed_4, qX7_seed_6, qX7_seed_7, qX7_seed_8, qX7_seed_11, qX7_seed_12, qX7_seed_13, qX7_seed_14, qX7_seed_17, qX7_seed_18, hv, if_false]
theorem call_law (v : Int32) : Call 55 116 [.int v] := by
  intro σ μ h
  have hI := h
  obtain ⟨n, np, h1, h2, h3, h4, h5, h6, h7⟩ := h
  by_cases hv : rg v 0 2
  · refine ⟨σ.1 11 10, mm_sti σ 11 10 v, mm_sti μ 0 10 v, ⟨n, np, ?_, by simpa [TxR, mm_sti_set, mm_set_1, upd_1] using h2, by simpa [mm_sti_set, mm_set_1, upd_1] using h3, by simpa [CmR, mm_sti_set, mm_set_1, upd_1] using h4, by simpa [BkR, mm_sti_set, mm_set_1, upd_1] using h5, by simpa [ImR, mm_sti_set, mm_set_1, upd_1] using h6, by simpa [ImR, mm_sti_set, mm_set_1, upd_1] using h7⟩, fun d P => ?_, fun d P => ?_⟩
    · unfold TwR at h1 ⊢
      simp only [mm_sti_set, mm_set_1, upd_1, Nat.reduceEqDiff, if_true, if_false]
      obtain ⟨q1, q2, q3, q4, q5, q6, q7⟩ := h1
      exact ⟨q1, q2, q3, q4, q5, ⟨trivial, hv⟩, q7⟩
    · obtain ⟨k, -, hk, rfl⟩ := hv
      rw [in_X6_law]
      simp only [qX6_law_0, qX6_law_1, qX6_law_4, qX6_law_5, qX6_law_6, qX6_law_9, qX6_law_11, qX6_law_12, qX6_law_13, qX6_law_16, qX6_law_19, qX6_law_20, qX6_law_21, qX6_law_24, qX6_law_25, qX6_law_28, qX6_law_29, nI_neg (show k < 2 ^ 31 by omega), show nI k ≤ 2 from nI_le (b := 2) hk (by decide), if_true, if_false]
    · have hi : (0 : Int64) ≤ v.toInt64 ∧ v.toInt64 ≤ 2 := in_yes (a := 0) (b := 2) rfl rfl (by decide) hv
      rw [in_X7_law]
      simp only [qX7_law_0, qX7_law_1, qX7_law_2, qX7_law_3, qX7_law_6, qX7_law_9, qX7_law_12, qX7_law_14, qX7_law_15, qX7_law_16, qX7_law_19, qX7_law_20, qX7_law_21, qX7_law_22, qX7_law_25, qX7_law_26, s_Min, hi, and_self, if_true, if_false, Option.toList, List.cons_append, List.nil_append, show ¬ (1 : Int32) = 0 by decide, h1.law]
  · refine ⟨-1000000002, σ, μ, hI, fun d P => ?_, fun d P => ?_⟩
    · rw [in_X6_law]
      rcases out_of (by decide) hv with hq | ⟨hq, hq2⟩
      · simp only [qX6_law_0, qX6_law_1, qX6_law_4, qX6_law_5, qX6_law_6, qX6_law_9, qX6_law_11, qX6_law_12, qX6_law_13, qX6_law_16, qX6_law_19, qX6_law_20, qX6_law_21, qX6_law_24, qX6_law_25, qX6_law_28, qX6_law_29, hq, if_true]
      · simp only [qX6_law_0, qX6_law_1, qX6_law_4, qX6_law_5, qX6_law_6, qX6_law_9, qX6_law_11, qX6_law_12, qX6_law_13, qX6_law_16, qX6_law_19, qX6_law_20, qX6_law_21, qX6_law_24, qX6_law_25, qX6_law_28, qX6_law_29, hq, show ¬ v ≤ 2 from hq2, if_false]
    · have hi : ¬ ((0 : Int64) ≤ v.toInt64 ∧ v.toInt64 ≤ 2) := in_no (a := 0) (b := 2) rfl rfl (by decide) (by decide) hv
      rw [in_X7_law]
      simp only [qX7_law_0, qX7_law_1, qX7_law_2, qX7_law_3, qX7_law_6, qX7_law_9, qX7_law_12, qX7_law_14, qX7_law_15, qX7_law_16, qX7_law_19, qX7_law_20, qX7_law_21, qX7_law_22, qX7_law_25, qX7_law_26, s_Min, hi, if_true, if_false, Option.toList, List.cons_append, List.nil_append]
theorem call_price (v : Int32) : Call 56 117 [.int v] := by
  intro σ μ h
  have hI := h
  obtain ⟨n, np, h1, h2, h3, h4, h5, h6, h7⟩ := h
  by_cases hv : rg v 0 99
  · refine ⟨σ.1 11 9, mm_sti σ 11 9 v, mm_sti μ 0 9 v, ⟨n, np, ?_, by simpa [TxR, mm_sti_set, mm_set_1, upd_1] using h2, by simpa [mm_sti_set, mm_set_1, upd_1] using h3, by simpa [CmR, mm_sti_set, mm_set_1, upd_1] using h4, by simpa [BkR, mm_sti_set, mm_set_1, upd_1] using h5, by simpa [ImR, mm_sti_set, mm_set_1, upd_1] using h6, by simpa [ImR, mm_sti_set, mm_set_1, upd_1] using h7⟩, fun d P => ?_, fun d P => ?_⟩
    · unfold TwR at h1 ⊢
      simp only [mm_sti_set, mm_set_1, upd_1, Nat.reduceEqDiff, if_true, if_false]
      obtain ⟨q1, q2, q3, q4, q5, q6, q7⟩ := h1
      exact ⟨q1, q2, q3, q4, ⟨trivial, hv⟩, q6, q7⟩
    · obtain ⟨k, -, hk, rfl⟩ := hv
      rw [in_X6_price]
      simp only [qX6_price_0, qX6_price_1, qX6_price_4, qX6_price_5, qX6_price_7, qX6_price_10, qX6_price_12, qX6_price_13, qX6_price_14, qX6_price_17, qX6_price_20, qX6_price_21, qX6_price_22, qX6_price_25, qX6_price_26, qX6_price_29, qX6_price_30, nI_neg (show k < 2 ^ 31 by omega), show nI k ≤ 99 from nI_le (b := 99) hk (by decide), if_true, if_false]
    · have hi : (0 : Int64) ≤ v.toInt64 ∧ v.toInt64 ≤ 99 := in_yes (a := 0) (b := 99) rfl rfl (by decide) hv
      rw [in_X7_price]
      simp only [qX7_price_0, qX7_price_1, qX7_price_2, qX7_price_3, qX7_price_6, qX7_price_9, qX7_price_12, qX7_price_14, qX7_price_15, qX7_price_16, qX7_price_19, qX7_price_20, qX7_price_21, qX7_price_22, qX7_price_25, qX7_price_26, s_Min, hi, and_self, if_true, if_false, Option.toList, List.cons_append, List.nil_append, show ¬ (1 : Int32) = 0 by decide, h1.2.2.2.2.1.1]
  · refine ⟨-1000000002, σ, μ, hI, fun d P => ?_, fun d P => ?_⟩
    · rw [in_X6_price]
      rcases out_of (by decide) hv with hq | ⟨hq, hq2⟩
      · simp only [qX6_price_0, qX6_price_1, qX6_price_4, qX6_price_5, qX6_price_7, qX6_price_10, qX6_price_12, qX6_price_13, qX6_price_14, qX6_price_17, qX6_price_20, qX6_price_21, qX6_price_22, qX6_price_25, qX6_price_26, qX6_price_29, qX6_price_30, hq, if_true]
      · simp only [qX6_price_0, qX6_price_1, qX6_price_4, qX6_price_5, qX6_price_7, qX6_price_10, qX6_price_12, qX6_price_13, qX6_price_14, qX6_price_17, qX6_price_20, qX6_price_21, qX6_price_22, qX6_price_25, qX6_price_26, qX6_price_29, qX6_price_30, hq, show ¬ v ≤ 99 from hq2, if_false]
    · have hi : ¬ ((0 : Int64) ≤ v.toInt64 ∧ v.toInt64 ≤ 99) := in_no (a := 0) (b := 99) rfl rfl (by decide) (by decide) hv
      rw [in_X7_price]
      simp only [qX7_price_0, qX7_price_1, qX7_price_2, qX7_price_3, qX7_price_6, qX7_price_9, qX7_price_12, qX7_price_14, qX7_price_15, qX7_price_16, qX7_price_19, qX7_price_20, qX7_price_21, qX7_price_22, qX7_price_25, qX7_price_26, s_Min, hi, if_true, if_false, Option.toList, List.cons_append, List.nil_append]
theorem call_stones (l v : Int32) : Call 54 115 [.int l, .int v] := by
  intro σ μ h
  have hI := h
  obtain ⟨n, np, h1, h2, h3, h4, h5, h6, h7⟩ := h
  have hT := h1.okT
  have hM := h1.okM
  have hn7 := hT.2.1
  have hn : n < 2 ^ 31 := by omega
  by_cases hp : hasF (nI n) l = 0
  · refine ⟨-1000000001, σ, μ, hI, fun d P => ?_, fun d P => ?_⟩
    · rw [in_X6_stones]
      simp only [qX6_stones_0, qX6_stones_1, qX6_stones_4, qX6_stones_5, qX6_stones_8, qX6_stones_11, qX6_stones_13, qX6_stones_14, qX6_stones_15, qX6_stones_18, qX6_stones_19, qX6_stones_21, qX6_stones_24, qX6_stones_26, qX6_stones_27, qX6_stones_28, qX6_stones_31, qX6_stones_34, qX6_stones_35, qX6_stones_38, qX6_stones_39, qX6_stones_40, qX6_stones_43, qX6_stones_46, qX6_stones_47, qX6_stones_48, qX6_stones_51, qX6_stones_52, s_hasLetter, hT.1, hp, if_true, if_false, Option.toList, List.cons_append, List.nil_append]
    · rw [in_X7_stones]
      simp only [qX7_stones_0, qX7_stones_1, qX7_stones_2, qX7_stones_5, qX7_stones_8, qX7_stones_10, qX7_stones_11, qX7_stones_12, qX7_stones_13, qX7_stones_14, qX7_stones_17, qX7_stones_20, qX7_stones_23, qX7_stones_25, qX7_stones_26, qX7_stones_27, qX7_stones_30, qX7_stones_31, qX7_stones_32, qX7_stones_33, qX7_stones_34, qX7_stones_37, qX7_stones_38, qX7_stones_39, qX7_stones_40, qX7_stones_41, s_MisLetter hn hM.1, hp, if_true, if_false, Option.toList, List.cons_append, List.nil_append]
  · obtain ⟨k, hk, rfl⟩ := hasF_1 hn hp
    have h7k : k < 7 := by omega
    have h2k : vp_in (nI k) 7 := vp_in_nI h7k (by decide)
    have h3k : (nI k).toNatClampNeg = k := nI_clamp (by omega)
    by_cases hv : rg v 0 9
    · refine ⟨σ.1 18 k, mm_set σ 18 (upd (σ.1 18) k v), mm_set μ 7 (upd (μ.1 7) k v), ⟨n, np, ?_, by simpa [TxR, mm_sti_set, mm_set_1, upd_1] using h2, by simpa [mm_sti_set, mm_set_1, upd_1] using h3, by simpa [CmR, mm_sti_set, mm_set_1, upd_1] using h4, by simpa [BkR, mm_sti_set, mm_set_1, upd_1] using h5, by simpa [ImR, mm_sti_set, mm_set_1, upd_1] using h6, by simpa [ImR, mm_sti_set, mm_set_1, upd_1] using h7⟩, fun d P => ?_, fun d P => ?_⟩
      · unfold TwR at h1 ⊢
        simp only [mm_sti_set, mm_set_1, Nat.reduceEqDiff, if_true, if_false]
        obtain ⟨q1, q2, q3, q4, q5, q6, q7⟩ := h1
        refine ⟨q1, q2, q3, fun l hl => ?_, q5, q6, q7⟩
        obtain ⟨⟨r1, r2, r3, r4, r5⟩, r6, r7, r8, r9, r10⟩ := q4 l hl
        refine ⟨⟨r1, r2, r3, r4, ?_⟩, r6, r7, r8, r9, ?_⟩
        · rw [upd_1, upd_1, r5]
        · rw [upd_1]
          by_cases e : l = k
          · rw [if_pos e]; exact hv
          · rw [if_neg e]; exact r10
      · obtain ⟨j, -, hj, rfl⟩ := hv
        rw [in_X6_stones]
        simp only [qX6_stones_0, qX6_stones_1, qX6_stones_4, qX6_stones_5, qX6_stones_8, qX6_stones_11, qX6_stones_13, qX6_stones_14, qX6_stones_15, qX6_stones_18, qX6_stones_19, qX6_stones_21, qX6_stones_24, qX6_stones_26, qX6_stones_27, qX6_stones_28, qX6_stones_31, qX6_stones_34, qX6_stones_35, qX6_stones_38, qX6_stones_39, qX6_stones_40, qX6_stones_43, qX6_stones_46, qX6_stones_47, qX6_stones_48, qX6_stones_51, qX6_stones_52, s_hasLetter, hT.1, hp, s_at_18, s_put_18, nI_neg (show j < 2 ^ 31 by omega), show nI j ≤ 9 from nI_le (b := 9) hj (by decide), if_true, if_false, Option.toList, List.cons_append, List.nil_append]
        rw [atF_in _ h7k (by decide), putF_in _ _ h7k (by decide)]
      · have hi : (0 : Int64) ≤ v.toInt64 ∧ v.toInt64 ≤ 9 := in_yes (a := 0) (b := 9) rfl rfl (by decide) hv
        rw [in_X7_stones]
        simp only [qX7_stones_0, qX7_stones_1, qX7_stones_2, qX7_stones_5, qX7_stones_8, qX7_stones_10, qX7_stones_11, qX7_stones_12, qX7_stones_13, qX7_stones_14, qX7_stones_17, qX7_stones_20, qX7_stones_23, qX7_stones_25, qX7_stones_26, qX7_stones_27, qX7_stones_30, qX7_stones_31, qX7_stones_32, qX7_stones_33, qX7_stones_34, qX7_stones_37, qX7_stones_38, qX7_stones_39, qX7_stones_40, qX7_stones_41, s_MisLetter hn hM.1, s_Min, hp, hi, h2k, h3k, true_and, and_self, if_true, if_false, Option.toList, List.cons_append, List.nil_append, show ¬ (1 : Int32) = 0 by decide, (h1.2.2.2.1 k hk).1.2.2.2.2, mm_sti_set]
    · refine ⟨-1000000002, σ, μ, hI, fun d P => ?_, fun d P => ?_⟩
      · rw [in_X6_stones]
        rcases out_of (by decide) hv with hq | ⟨hq, hq2⟩
        · simp only [qX6_stones_0, qX6_stones_1, qX6_stones_4, qX6_stones_5, qX6_stones_8, qX6_stones_11, qX6_stones_13, qX6_stones_14, qX6_stones_15, qX6_stones_18, qX6_stones_19, qX6_stones_21, qX6_stones_24, qX6_stones_26, qX6_stones_27, qX6_stones_28, qX6_stones_31, qX6_stones_34, qX6_stones_35, qX6_stones_38, qX6_stones_39, qX6_stones_40, qX6_stones_43, qX6_stones_46, qX6_stones_47, qX6_stones_48, qX6_stones_51, qX6_stones_52, s_hasLetter, hT.1, hp, hq, if_true, if_false, Option.toList, List.cons_append, List.nil_append]
        · simp only [qX6_stones_0, qX6_stones_1, qX6_stones_4, qX6_stones_5, qX6_stones_8, qX6_stones_11, qX6_stones_13, qX6_stones_14, qX6_stones_15, qX6_stones_18, qX6_stones_19, qX6_stones_21, qX6_stones_24, qX6_stones_26, qX6_stones_27, qX6_stones_28, qX6_stones_31, qX6_stones_34, qX6_stones_35, qX6_stones_38, qX6_stones_39, qX6_stones_40, qX6_stones_43, qX6_stones_46, qX6_stones_47, qX6_stones_48, qX6_stones_51, qX6_stones_52, s_hasLetter, hT.1, hp, hq, show ¬ v ≤ 9 from hq2, if_true, if_false, Option.toList, List.cons_append, List.nil_append]
      · have hi : ¬ ((0 : Int64) ≤ v.toInt64 ∧ v.toInt64 ≤ 9) := in_no (a := 0) (b := 9) rfl rfl (by decide) (by decide) hv
        rw [in_X7_stones]
        simp only [qX7_stones_0, qX7_stones_1, qX7_stones_2, qX7_stones_5, qX7_stones_8, qX7_stones_10, qX7_stones_11, qX7_stones_12, qX7_stones_13, qX7_stones_14, qX7_stones_17, qX7_stones_20, qX7_stones_23, qX7_stones_25, qX7_stones_26, qX7_stones_27, qX7_stones_30, qX7_stones_31, qX7_stones_32, qX7_stones_33, qX7_stones_34, qX7_stones_37, qX7_stones_38, qX7_stones_39, qX7_stones_40, qX7_stones_41, s_MisLetter hn hM.1, s_Min, hp, hi, if_true, if_false, Option.toList, List.cons_append, List.nil_append]
theorem call_tear : Call 68 139 [] := by
  intro σ μ h
  obtain ⟨n, np, h1, h2, h3, h4, h5, h6, h7⟩ := h
  obtain ⟨C, cr, hC, c1, c2, c3, c4⟩ := h4
  obtain ⟨B, hB, b1, b2, b3⟩ := h5
  refine ⟨nI B + nI C, mm_sti (mm_sti σ 0 12 0) 0 11 0, mm_sti (mm_sti μ 0 38 0) 0 36 0, ⟨n, np, by simpa [TwR, mm_sti_set, mm_set_1, upd_1] using h1, by simpa [TxR, mm_sti_set, mm_set_1, upd_1] using h2, by simpa [mm_sti_set, mm_set_1, upd_1] using h3, ?_, ?_, by simpa [ImR, mm_sti_set, mm_set_1, upd_1] using h6, by simpa [ImR, mm_sti_set, mm_set_1, upd_1] using h7⟩, fun d P => ?_, fun d P => ?_⟩
  · exact ⟨0, cr, Nat.zero_le n, by simp [mm_sti_set, mm_set_1, upd_1]; rfl, by simp [mm_sti_set, mm_set_1, upd_1]; rfl, fun k hk => by omega, fun i j hi => by omega⟩
  · exact ⟨0, by omega, by simp [mm_sti_set, mm_set_1, upd_1]; rfl, by simp [mm_sti_set, mm_set_1, upd_1]; rfl, fun k hk => by omega⟩
  · rw [in_X6_tear]
    simp only [qX6_tear_0, qX6_tear_1, qX6_tear_4, qX6_tear_5, qX6_tear_8, qX6_tear_9, qX6_tear_10, qX6_tear_11, qX6_tear_12, qX6_tear_15, qX6_tear_16, qX6_tear_17, qX6_tear_20, qX6_tear_21, c1, b1]
  · rw [in_X7_tear]
    simp only [qX7_tear_0, qX7_tear_1, qX7_tear_4, qX7_tear_5, qX7_tear_8, qX7_tear_9, qX7_tear_10, qX7_tear_11, qX7_tear_12, qX7_tear_15, qX7_tear_16, qX7_tear_17, qX7_tear_20, qX7_tear_21, c2, b2]
theorem call_write (l v : Int32) : Call 67 138 [.int l, .int v] := by
  intro σ μ h
  have hI := h
  obtain ⟨n, np, h1, h2, h3, h4, h5, h6, h7⟩ := h
  have hT := h1.okT
  have hM := h1.okM
  have hn7 := hT.2.1
  have hn : n < 2 ^ 31 := by omega
  by_cases hp : hasF (nI n) l = 0
  · refine ⟨-1000000001, σ, μ, hI, fun d P => ?_, fun d P => ?_⟩
    · rw [in_X6_write]
      simp only [qX6_write_0, qX6_write_1, qX6_write_4, qX6_write_5, qX6_write_8, qX6_write_11, qX6_write_13, qX6_write_14, qX6_write_15, qX6_write_18, qX6_write_19, qX6_write_22, qX6_write_25, qX6_write_27, qX6_write_28, qX6_write_29, qX6_write_32, qX6_write_34, qX6_write_37, qX6_write_39, qX6_write_40, qX6_write_41, qX6_write_44, qX6_write_45, qX6_write_48, qX6_write_49, qX6_write_52, qX6_write_53, qX6_write_56, qX6_write_57, qX6_write_60, qX6_write_61, qX6_write_64, qX6_write_65, qX6_write_66, qX6_write_69, qX6_write_70, qX6_write_71, qX6_write_74, qX6_write_75, qX6_write_78, s_hasLetter, hT.1, hp, if_true, if_false, Option.toList, List.cons_append, List.nil_append]
    · rw [in_X7_write]
      simp only [qX7_write_0, qX7_write_1, qX7_write_2, qX7_write_5, qX7_write_8, qX7_write_10, qX7_write_11, qX7_write_12, qX7_write_13, qX7_write_14, qX7_write_17, qX7_write_20, qX7_write_23, qX7_write_25, qX7_write_26, qX7_write_27, qX7_write_30, qX7_write_32, qX7_write_35, qX7_write_37, qX7_write_38, qX7_write_39, qX7_write_42, qX7_write_43, qX7_write_46, qX7_write_47, qX7_write_48, qX7_write_49, qX7_write_52, qX7_write_53, qX7_write_56, qX7_write_57, qX7_write_58, qX7_write_59, qX7_write_60, qX7_write_63, qX7_write_64, qX7_write_65, qX7_write_68, qX7_write_69, qX7_write_72, s_MisLetter hn hM.1, hp, if_true, if_false, Option.toList, List.cons_append, List.nil_append]
  · obtain ⟨k, hk, rfl⟩ := hasF_1 hn hp
    obtain ⟨B, hB, b1, b2, b3⟩ := h5
    by_cases hv : rg v 0 9999
    · have hi : (0 : Int64) ≤ v.toInt64 ∧ v.toInt64 ≤ 9999 := in_yes (a := 0) (b := 9999) rfl rfl (by decide) hv
      by_cases hf : B = 30
      · subst hf
        refine ⟨-1000000004, σ, μ, hI, fun d P => ?_, fun d P => ?_⟩
        · obtain ⟨j, -, hj, rfl⟩ := hv
          rw [in_X6_write]
          simp only [qX6_write_0, qX6_write_1, qX6_write_4, qX6_write_5, qX6_write_8, qX6_write_11, qX6_write_13, qX6_write_14, qX6_write_15, qX6_write_18, qX6_write_19, qX6_write_22, qX6_write_25, qX6_write_27, qX6_write_28, qX6_write_29, qX6_write_32, qX6_write_34, qX6_write_37, qX6_write_39, qX6_write_40, qX6_write_41, qX6_write_44, qX6_write_45, qX6_write_48, qX6_write_49, qX6_write_52, qX6_write_53, qX6_write_56, qX6_write_57, qX6_write_60, qX6_write_61, qX6_write_64, qX6_write_65, qX6_write_66, qX6_write_69, qX6_write_70, qX6_write_71, qX6_write_74, qX6_write_75, qX6_write_78, s_hasLetter, hT.1, hp, b1, nI_neg (show j < 2 ^ 31 by omega), show nI j ≤ 9999 from nI_le (b := 9999) hj (by decide), show ¬ nI 30 < 30 by decide, if_true, if_false, Option.toList, List.cons_append, List.nil_append]
        · rw [in_X7_write]
          simp only [qX7_write_0, qX7_write_1, qX7_write_2, qX7_write_5, qX7_write_8, qX7_write_10, qX7_write_11, qX7_write_12, qX7_write_13, qX7_write_14, qX7_write_17, qX7_write_20, qX7_write_23, qX7_write_25, qX7_write_26, qX7_write_27, qX7_write_30, qX7_write_32, qX7_write_35, qX7_write_37, qX7_write_38, qX7_write_39, qX7_write_42, qX7_write_43, qX7_write_46, qX7_write_47, qX7_write_48, qX7_write_49, qX7_write_52, qX7_write_53, qX7_write_56, qX7_write_57, qX7_write_58, qX7_write_59, qX7_write_60, qX7_write_63, qX7_write_64, qX7_write_65, qX7_write_68, qX7_write_69, qX7_write_72, s_MisLetter hn hM.1, s_Min, hp, hi, b2, and_self, if_true, if_false, Option.toList, List.cons_append, List.nil_append, show ¬ (1 : Int32) = 0 by decide, show nI 30 = 30 from rfl]
      · have hB30 : B < 30 := by omega
        have h2k : vp_in (nI B) 30 := vp_in_nI hB30 (by decide)
        have h3k : (nI B).toNatClampNeg = B := nI_clamp (by omega)
        refine ⟨nI (B + 1), mm_sti (mm_set (mm_set σ 43 (upd (σ.1 43) B (nI k))) 44 (upd (σ.1 44) B v)) 0 12 (nI (B + 1)), mm_sti (mm_set (mm_set μ 21 (upd (μ.1 21) B (nI k))) 22 (upd (μ.1 22) B v)) 0 38 (nI (B + 1)), ⟨n, np, by simpa [TwR, mm_sti_set, mm_set_1, upd_1] using h1, by simpa [TxR, mm_sti_set, mm_set_1, upd_1] using h2, by simpa [mm_sti_set, mm_set_1, upd_1] using h3, by simpa [CmR, mm_sti_set, mm_set_1, upd_1] using h4, ?_, by simpa [ImR, mm_sti_set, mm_set_1, upd_1] using h6, by simpa [ImR, mm_sti_set, mm_set_1, upd_1] using h7⟩, fun d P => ?_, fun d P => ?_⟩
        · refine ⟨B + 1, by omega, by simp [mm_sti_set, mm_set_1, upd_1], by simp [mm_sti_set, mm_set_1, upd_1], fun i hi2 => ?_⟩
          simp only [mm_sti_set, mm_set_1, upd_1, Nat.reduceEqDiff, if_true, if_false]
          by_cases e : i = B
          · simp only [e, if_true]
            exact ⟨⟨k, hk, rfl, rfl⟩, trivial⟩
          · simp only [e, if_false]
            exact b3 i (by omega)
        · obtain ⟨j, -, hj, rfl⟩ := hv
          rw [in_X6_write]
          simp only [qX6_write_0, qX6_write_1, qX6_write_4, qX6_write_5, qX6_write_8, qX6_write_11, qX6_write_13, qX6_write_14, qX6_write_15, qX6_write_18, qX6_write_19, qX6_write_22, qX6_write_25, qX6_write_27, qX6_write_28, qX6_write_29, qX6_write_32, qX6_write_34, qX6_write_37, qX6_write_39, qX6_write_40, qX6_write_41, qX6_write_44, qX6_write_45, qX6_write_48, qX6_write_49, qX6_write_52, qX6_write_53, qX6_write_56, qX6_write_57, qX6_write_60, qX6_write_61, qX6_write_64, qX6_write_65, qX6_write_66, qX6_write_69, qX6_write_70, qX6_write_71, qX6_write_74, qX6_write_75, qX6_write_78, s_hasLetter, hT.1, hp, b1, s_put_43, s_put_44, mm_set_1, Nat.reduceEqDiff, nI_1, nI_neg (show j < 2 ^ 31 by omega), show nI j ≤ 9999 from nI_le (b := 9999) hj (by decide), show nI B < 30 from nI_lt (b := 30) hB30 (by decide), if_true, if_false, Option.toList, List.cons_append, List.nil_append]
          rw [putF_in _ _ hB30 (by decide), putF_in _ _ hB30 (by decide)]
          simp [mm_sti_set, mm_set_1, upd_1]
        · rw [in_X7_write]
          simp only [qX7_write_0, qX7_write_1, qX7_write_2, qX7_write_5, qX7_write_8, qX7_write_10, qX7_write_11, qX7_write_12, qX7_write_13, qX7_write_14, qX7_write_17, qX7_write_20, qX7_write_23, qX7_write_25, qX7_write_26, qX7_write_27, qX7_write_30, qX7_write_32, qX7_write_35, qX7_write_37, qX7_write_38, qX7_write_39, qX7_write_42, qX7_write_43, qX7_write_46, qX7_write_47, qX7_write_48, qX7_write_49, qX7_write_52, qX7_write_53, qX7_write_56, qX7_write_57, qX7_write_58, qX7_write_59, qX7_write_60, qX7_write_63, qX7_write_64, qX7_write_65, qX7_write_68, qX7_write_69, qX7_write_72, s_MisLetter hn hM.1, s_Min, hp, hi, b2, h2k, h3k, true_and, mm_sti_set, mm_set_1, Nat.reduceEqDiff, nI_1, and_self, if_true, if_false, Option.toList, List.cons_append, List.nil_append, show ¬ (1 : Int32) = 0 by decide, show ¬ nI B = 30 from fun q => hf ((nI_eq (by omega) (by decide)).mp q)]
          simp [mm_sti_set, mm_set_1, upd_1]
    · refine ⟨-1000000002, σ, μ, hI, fun d P => ?_, fun d P => ?_⟩
      · rw [in_X6_write]
        rcases out_of (by decide) hv with hq | ⟨hq, hq2⟩
        · simp only [qX6_write_0, qX6_write_1, qX6_write_4, qX6_write_5, qX6_write_8, qX6_write_11, qX6_write_13, qX6_write_14, qX6_write_15, qX6_write_18, qX6_write_19, qX6_write_22, qX6_write_25, qX6_write_27, qX6_write_28, qX6_write_29, qX6_write_32, qX6_write_34, qX6_write_37, qX6_write_39, qX6_write_40, qX6_write_41, qX6_write_44, qX6_write_45, qX6_write_48, qX6_write_49, qX6_write_52, qX6_write_53, qX6_write_56, qX6_write_57, qX6_write_60, qX6_write_61, qX6_write_64, qX6_write_65, qX6_write_66, qX6_write_69, qX6_write_70, qX6_write_71, qX6_write_74, qX6_write_75, qX6_write_78, s_hasLetter, hT.1, hp, hq, if_true, if_false, Option.toList, List.cons_append, List.nil_append]
        · simp only [qX6_write_0, qX6_write_1, qX6_write_4, qX6_write_5, qX6_write_8, qX6_write_11, qX6_write_13, qX6_write_14, qX6_write_15, qX6_write_18, qX6_write_19, qX6_write_22, qX6_write_25, qX6_write_27, qX6_write_28, qX6_write_29, qX6_write_32, qX6_write_34, qX6_write_37, qX6_write_39, qX6_write_40, qX6_write_41, qX6_write_44, qX6_write_45, qX6_write_48, qX6_write_49, qX6_write_52, qX6_write_53, qX6_write_56, qX6_write_57, qX6_write_60, qX6_write_61, qX6_write_64, qX6_write_65, qX6_write_66, qX6_write_69, qX6_write_70, qX6_write_71, qX6_write_74, qX6_write_75, qX6_write_78, s_hasLetter, hT.1, hp, hq, show ¬ v ≤ 9999 from hq2, if_true, if_false, Option.toList, List.cons_append, List.nil_append]
      · have hi : ¬ ((0 : Int64) ≤ v.toInt64 ∧ v.toInt64 ≤ 9999) := in_no (a := 0) (b := 9999) rfl rfl (by decide) (by decide) hv
        rw [in_X7_write]
        simp only [qX7_write_0, qX7_write_1, qX7_write_2, qX7_write_5, qX7_write_8, qX7_write_10, qX7_write_11, qX7_write_12, qX7_write_13, qX7_write_14, qX7_write_17, qX7_write_20, qX7_write_23, qX7_write_25, qX7_write_26, qX7_write_27, qX7_write_30, qX7_write_32, qX7_write_35, qX7_write_37, qX7_write_38, qX7_write_39, qX7_write_42, qX7_write_43, qX7_write_46, qX7_write_47, qX7_write_48, qX7_write_49, qX7_write_52, qX7_write_53, qX7_write_56, qX7_write_57, qX7_write_58, qX7_write_59, qX7_write_60, qX7_write_63, qX7_write_64, qX7_write_65, qX7_write_68, qX7_write_69, qX7_write_72, s_MisLetter hn hM.1, s_Min, hp, hi, if_true, if_false, Option.toList, List.cons_append, List.nil_append]
