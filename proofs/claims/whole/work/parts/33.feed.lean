/-! CALLS: feed -/
theorem byte_ex (z : Int64) : ∃ b, b < 256 ∧ (z &&& 255).toInt32 = nI b ∧ z.toInt32.toInt8.toInt32 = (nI b).toInt8.toInt32 := by
  refine ⟨z.toBitVec.toNat % 256, Nat.mod_lt _ (by decide), ?_, ?_⟩
  · apply Int32.toBitVec_inj.1
    show (z.toBitVec &&& 255#64).signExtend 32 = BitVec.ofNat 32 (z.toBitVec.toNat % 256)
    rw [BitVec.signExtend_eq_setWidth_of_le _ (by decide)]
    apply BitVec.eq_of_toNat_eq
    rw [BitVec.toNat_setWidth, BitVec.toNat_and, BitVec.toNat_ofNat, BitVec.toNat_ofNat, show 255 % 2 ^ 64 = 2 ^ 8 - 1 from rfl, Nat.and_two_pow_sub_one_eq_mod]
  · congr 1
    apply Int8.toBitVec_inj.1
    show (z.toBitVec.signExtend 32).signExtend 8 = (BitVec.ofNat 32 (z.toBitVec.toNat % 256)).signExtend 8
    rw [BitVec.signExtend_eq_setWidth_of_le _ (by decide), BitVec.signExtend_eq_setWidth_of_le _ (by decide), BitVec.signExtend_eq_setWidth_of_le _ (by decide)]
    apply BitVec.eq_of_toNat_eq
    rw [BitVec.toNat_setWidth, BitVec.toNat_setWidth, BitVec.toNat_setWidth, BitVec.toNat_ofNat]
    omega
theorem nar_byte (x : Int32) : vp_nar .byte x.toInt8.toInt32 = x.toInt8.toInt32 := by
  show x.toInt8.toInt32.toInt8.toInt32 = _
  simp
def TxT (σ μ : mm_M) (T : Nat) : Prop := σ.1 1 2 = nI T ∧ μ.1 0 13 = nI T ∧ ∀ k, k < T → ∃ b, b < 256 ∧ μ.1 8 k = nI b ∧ σ.1 2 k = (nI b).toInt8.toInt32
theorem feed_loop {y : Int64} {c : Int32} : ∀ (j T : Nat) (σ μ : mm_M), T + j ≤ 400 → TxT σ μ T → ∃ σ' μ' : mm_M, TxT σ' μ' (T + j) ∧ (∀ k, k ≠ 1 → k ≠ 2 → σ'.1 k = σ.1 k) ∧ σ'.1 1 3 = σ.1 1 3 ∧ (∀ k, k ≠ 0 → k ≠ 8 → μ'.1 k = μ.1 k) ∧ (∀ q, q ≠ 13 → μ'.1 0 q = μ.1 0 q) ∧ (∀ (d : Nat) (P : mm_O), mm_at shC (d + 1) 46 [(2, y)] P 37 [.ref 0, .int c, .null, .null, .int (nI j - 1)] [] σ = P (some (.int (nI (T + j)))) σ') ∧ ∀ (d : Nat) (P : mm_O), mm_at shM d 87 [(2, y)] P 35 [.ref 0, .int c, .null, .null, .int (nI j - 1)] [] μ = P (some (.int (nI (T + j)))) μ' := by
  intro j
  induction j with
  | zero =>
    intro T σ μ hT h
    refine ⟨σ, μ, h, fun _ _ _ => rfl, rfl, fun _ _ _ => rfl, fun _ _ => rfl, fun d P => ?_, fun d P => ?_⟩
    · rw [qX6_feed_37]
      simp only [qX6_feed_0, qX6_feed_1, qX6_feed_2, qX6_feed_5, qX6_feed_6, qX6_feed_8, qX6_feed_11, qX6_feed_13, qX6_feed_14, qX6_feed_15, qX6_feed_18, qX6_feed_21, qX6_feed_22, qX6_feed_23, qX6_feed_26, qX6_feed_29, qX6_feed_31, qX6_feed_32, qX6_feed_33, qX6_feed_34, qX6_feed_35, qX6_feed_39, qX6_feed_42, qX6_feed_43, qX6_feed_46, qX6_feed_47, qX6_feed_49, qX6_feed_51, qX6_feed_52, qX6_feed_53, qX6_feed_54, qX6_feed_55, qX6_feed_58, qX6_feed_61, qX6_feed_64, qX6_feed_65, qX6_feed_68, qX6_feed_71, show nI 0 - 1 < 0 by decide, if_true, h.1, Nat.add_zero]
    · rw [qX7_feed_35]
      simp only [qX7_feed_0, qX7_feed_1, qX7_feed_2, qX7_feed_3, qX7_feed_6, qX7_feed_9, qX7_feed_12, qX7_feed_14, qX7_feed_15, qX7_feed_16, qX7_feed_19, qX7_feed_20, qX7_feed_21, qX7_feed_24, qX7_feed_27, qX7_feed_29, qX7_feed_30, qX7_feed_31, qX7_feed_32, qX7_feed_33, qX7_feed_37, qX7_feed_40, qX7_feed_41, qX7_feed_44, qX7_feed_45, qX7_feed_48, qX7_feed_49, qX7_feed_51, qX7_feed_53, qX7_feed_54, qX7_feed_55, qX7_feed_58, qX7_feed_59, qX7_feed_60, qX7_feed_61, qX7_feed_62, qX7_feed_63, qX7_feed_66, qX7_feed_67, qX7_feed_68, qX7_feed_71, qX7_feed_74, qX7_feed_77, qX7_feed_78, qX7_feed_81, show nI 0 - 1 < 0 by decide, if_true, h.2.1, Nat.add_zero]
  | succ j ih =>
    intro T σ μ hT h
    obtain ⟨t1, t2, t3⟩ := h
    have e1 : nI (j + 1) - 1 = nI j := nI_sub (b := 1) (by omega)
    have e2 : ¬ nI j < 0 := nI_neg (by omega)
    have e3 : ¬ nI T < 0 := nI_neg (by omega)
    have e4 : ¬ (nI 400 ≤ nI T) := nI_ge (by omega) (by omega)
    have e5 : vp_in (nI T) 400 := vp_in_nI (by omega) (by decide)
    have e6 : (nI T).toNatClampNeg = T := nI_clamp (by omega)
    have e7 : nI j + -1 = nI j - 1 := by rw [Int32.sub_eq_add_neg]
    obtain ⟨b, hb, b1, b2⟩ := byte_ex (y >>> ((8 * nI j : Int32).toInt64 &&& 63))
    obtain ⟨σ', μ', i1, i2, i3, i4, i5, i6, i7⟩ := ih (T + 1) (mm_set (mm_set σ 2 (upd (σ.1 2) T (nI b).toInt8.toInt32)) 1 (upd (σ.1 1) 2 (nI (T + 1)))) (mm_set (mm_set μ 8 (upd (μ.1 8) T (nI b))) 0 (upd (μ.1 0) 13 (nI (T + 1)))) (by omega) ⟨by simp [mm_set_1, upd_1], by simp [mm_set_1, upd_1], fun k hk => by
      simp only [mm_set_1, upd_1, Nat.reduceEqDiff, if_true, if_false]
      by_cases e : k = T
      · subst e
        exact ⟨b, hb, by simp, by simp⟩
      · obtain ⟨b', h1, h2, h3⟩ := t3 k (by omega)
        exact ⟨b', h1, by simp [e, h2], by simp [e, h3]⟩⟩
    have hTj : T + 1 + j = T + (j + 1) := by omega
    rw [hTj] at i1 i6 i7
    refine ⟨σ', μ', i1, fun k a b => by rw [i2 k a b]; simp [mm_set_1, a, b], by rw [i3]; simp [mm_set_1, upd_1], fun k a b => by rw [i4 k a b]; simp [mm_set_1, a, b], fun q a => by rw [i5 q a]; simp [mm_set_1, upd_1, a], fun d P => ?_, fun d P => ?_⟩
    · rw [← i6 d P, qX6_feed_37]
      simp only [qX6_feed_0, qX6_feed_1, qX6_feed_2, qX6_feed_5, qX6_feed_6, qX6_feed_8, qX6_feed_11, qX6_feed_13, qX6_feed_14, qX6_feed_15, qX6_feed_18, qX6_feed_21, qX6_feed_22, qX6_feed_23, qX6_feed_26, qX6_feed_29, qX6_feed_31, qX6_feed_32, qX6_feed_33, qX6_feed_34, qX6_feed_35, qX6_feed_39, qX6_feed_42, qX6_feed_43, qX6_feed_46, qX6_feed_47, qX6_feed_49, qX6_feed_51, qX6_feed_52, qX6_feed_53, qX6_feed_54, qX6_feed_55, qX6_feed_58, qX6_feed_61, qX6_feed_64, qX6_feed_65, qX6_feed_68, qX6_feed_71, e1, e2, if_false]
      rw [in_X1_add]
      simp only [qX1_add_0, qX1_add_1, qX1_add_4, qX1_add_7, qX1_add_8, qX1_add_11, qX1_add_12, qX1_add_15, qX1_add_16, qX1_add_19, qX1_add_20, qX1_add_23, qX1_add_24, qX1_add_27, qX1_add_28, qX1_add_29, qX1_add_30, qX1_add_31, qX1_add_34, qX1_add_35, qX1_add_36, qX1_add_39, qX6_feed_0, qX6_feed_1, qX6_feed_2, qX6_feed_5, qX6_feed_6, qX6_feed_8, qX6_feed_11, qX6_feed_13, qX6_feed_14, qX6_feed_15, qX6_feed_18, qX6_feed_21, qX6_feed_22, qX6_feed_23, qX6_feed_26, qX6_feed_29, qX6_feed_31, qX6_feed_32, qX6_feed_33, qX6_feed_34, qX6_feed_35, qX6_feed_39, qX6_feed_42, qX6_feed_43, qX6_feed_46, qX6_feed_47, qX6_feed_49, qX6_feed_51, qX6_feed_52, qX6_feed_53, qX6_feed_54, qX6_feed_55, qX6_feed_58, qX6_feed_61, qX6_feed_64, qX6_feed_65, qX6_feed_68, qX6_feed_71, t1, e3, e4, e5, e6, show Int32.ofNat 400 = nI 400 from rfl, if_false, true_and, b2, nar_byte, mm_sti_set, mm_set_1, Nat.reduceEqDiff, nI_1, nI_add, e7, Option.toList, List.nil_append]
    · rw [← i7 d P, qX7_feed_35]
      simp only [qX7_feed_0, qX7_feed_1, qX7_feed_2, qX7_feed_3, qX7_feed_6, qX7_feed_9, qX7_feed_12, qX7_feed_14, qX7_feed_15, qX7_feed_16, qX7_feed_19, qX7_feed_20, qX7_feed_21, qX7_feed_24, qX7_feed_27, qX7_feed_29, qX7_feed_30, qX7_feed_31, qX7_feed_32, qX7_feed_33, qX7_feed_37, qX7_feed_40, qX7_feed_41, qX7_feed_44, qX7_feed_45, qX7_feed_48, qX7_feed_49, qX7_feed_51, qX7_feed_53, qX7_feed_54, qX7_feed_55, qX7_feed_58, qX7_feed_59, qX7_feed_60, qX7_feed_61, qX7_feed_62, qX7_feed_63, qX7_feed_66, qX7_feed_67, qX7_feed_68, qX7_feed_71, qX7_feed_74, qX7_feed_77, qX7_feed_78, qX7_feed_81, e1, e2, t2, e5, e6, if_false, true_and, b1, mm_sti_set, mm_set_1, Nat.reduceEqDiff, nI_1, nI_add, e7]
theorem call_feed (c : Int32) (y : Int64) : Call 46 87 [.int c, .long y] := by
  intro σ μ h
  by_cases hw : rg c 1 8
  · have hc : (1 : Int64) ≤ c.toInt64 ∧ c.toInt64 ≤ 8 := in_yes (a := 1) (b := 8) rfl rfl (by decide) hw
    obtain ⟨v, hv1, hv2, rfl⟩ := hw
    have hc1 : ¬ nI v < 1 := fun e => absurd ((nI_leI (a := 1) (b := v) (by decide) (by omega)).mpr hv1) (fun q => Int32.lt_irrefl (Int32.lt_of_lt_of_le e q))
    have hc2 : nI v ≤ 8 := (nI_leI (by omega) (by decide)).mpr hv2
    have hI := h
    obtain ⟨n, np, h1, ⟨T, hT, ht⟩, h3, h4, h5, h6, h7⟩ := h
    by_cases hs : T + v ≤ 400
    · have e1 : nI (T + v) ≤ 400 := (nI_leI (by omega) (by decide)).mpr hs
      obtain ⟨σ', μ', i1, i2, i3, i4, i5, i6, i7⟩ := feed_loop (y := y) (c := nI v) v T σ μ hs ht
      refine ⟨nI (T + v), σ', μ', ⟨n, np, ?_, ⟨T + v, hs, i1⟩, ?_, ?_, ?_, ?_, ?_⟩, fun d P => ?_, fun d P => ?_⟩
      · unfold TwR
        rw [i2 11 (by decide) (by decide), i2 12 (by decide) (by decide), i2 13 (by decide) (by decide), i2 14 (by decide) (by decide), i2 15 (by decide) (by decide), i2 16 (by decide) (by decide), i2 17 (by decide) (by decide), i2 18 (by decide) (by decide), i4 1 (by decide) (by decide), i4 2 (by decide) (by decide), i4 3 (by decide) (by decide), i4 4 (by decide) (by decide), i4 5 (by decide) (by decide), i4 6 (by decide) (by decide), i4 7 (by decide) (by decide), i5 0 (by decide), i5 3 (by decide), i5 9 (by decide), i5 10 (by decide), i5 11 (by decide)]
        exact h1
      · rw [i3, i5 14 (by decide)]; exact h3
      · unfold CmR
        rw [i2 0 (by decide) (by decide), i2 42 (by decide) (by decide), i4 20 (by decide) (by decide), i5 36 (by decide)]
        exact h4
      · unfold BkR
        rw [i2 0 (by decide) (by decide), i2 43 (by decide) (by decide), i2 44 (by decide) (by decide), i4 21 (by decide) (by decide), i4 22 (by decide) (by decide), i5 38 (by decide)]
        exact h5
      · exact ImR_c h6 (i2 _ (by decide) (by decide)) (i2 _ (by decide) (by decide)) (i2 _ (by decide) (by decide)) (i2 _ (by decide) (by decide)) (by rw [i4 24 (by decide) (by decide)]) (fun q _ _ => by rw [i4 23 (by decide) (by decide)]) h1.2.1.2.2
      · exact ImR_c h7 (i2 _ (by decide) (by decide)) (i2 _ (by decide) (by decide)) (i2 _ (by decide) (by decide)) (i2 _ (by decide) (by decide)) (by rw [i4 24 (by decide) (by decide)]) (fun q _ _ => by rw [i4 23 (by decide) (by decide)]) h1.2.1.2.2
      · rw [in_X6_feed]
        simp only [qX6_feed_0, qX6_feed_1, qX6_feed_2, qX6_feed_5, qX6_feed_6, qX6_feed_8, qX6_feed_11, qX6_feed_13, qX6_feed_14, qX6_feed_15, qX6_feed_18, qX6_feed_21, qX6_feed_22, qX6_feed_23, qX6_feed_26, qX6_feed_29, qX6_feed_31, qX6_feed_32, qX6_feed_33, qX6_feed_34, qX6_feed_35, qX6_feed_39, qX6_feed_42, qX6_feed_43, qX6_feed_46, qX6_feed_47, qX6_feed_49, qX6_feed_51, qX6_feed_52, qX6_feed_53, qX6_feed_54, qX6_feed_55, qX6_feed_58, qX6_feed_61, qX6_feed_64, qX6_feed_65, qX6_feed_68, qX6_feed_71, hc1, hc2, if_true, if_false, ht.1, nI_add, e1]
        exact i6 (d + 38) P
      · rw [in_X7_feed]
        simp only [qX7_feed_0, qX7_feed_1, qX7_feed_2, qX7_feed_3, qX7_feed_6, qX7_feed_9, qX7_feed_12, qX7_feed_14, qX7_feed_15, qX7_feed_16, qX7_feed_19, qX7_feed_20, qX7_feed_21, qX7_feed_24, qX7_feed_27, qX7_feed_29, qX7_feed_30, qX7_feed_31, qX7_feed_32, qX7_feed_33, qX7_feed_37, qX7_feed_40, qX7_feed_41, qX7_feed_44, qX7_feed_45, qX7_feed_48, qX7_feed_49, qX7_feed_51, qX7_feed_53, qX7_feed_54, qX7_feed_55, qX7_feed_58, qX7_feed_59, qX7_feed_60, qX7_feed_61, qX7_feed_62, qX7_feed_63, qX7_feed_66, qX7_feed_67, qX7_feed_68, qX7_feed_71, qX7_feed_74, qX7_feed_77, qX7_feed_78, qX7_feed_81, s_Min, hc, and_self, if_true, show ¬ (1 : Int32) = 0 by decide, if_false, Option.toList, List.cons_append, List.nil_append, ht.2.1, nI_add, e1]
        exact i7 (d + 39) P
    · have e1 : ¬ nI (T + v) ≤ 400 := fun e => hs ((nI_leI (b := 400) (by omega) (by decide)).mp e)
      refine ⟨-1000000004, σ, μ, hI, fun d P => ?_, fun d P => ?_⟩
      · rw [in_X6_feed]
        simp only [qX6_feed_0, qX6_feed_1, qX6_feed_2, qX6_feed_5, qX6_feed_6, qX6_feed_8, qX6_feed_11, qX6_feed_13, qX6_feed_14, qX6_feed_15, qX6_feed_18, qX6_feed_21, qX6_feed_22, qX6_feed_23, qX6_feed_26, qX6_feed_29, qX6_feed_31, qX6_feed_32, qX6_feed_33, qX6_feed_34, qX6_feed_35, qX6_feed_39, qX6_feed_42, qX6_feed_43, qX6_feed_46, qX6_feed_47, qX6_feed_49, qX6_feed_51, qX6_feed_52, qX6_feed_53, qX6_feed_54, qX6_feed_55, qX6_feed_58, qX6_feed_61, qX6_feed_64, qX6_feed_65, qX6_feed_68, qX6_feed_71, hc1, hc2, if_true, if_false, ht.1, nI_add, e1]
      · rw [in_X7_feed]
        simp only [qX7_feed_0, qX7_feed_1, qX7_feed_2, qX7_feed_3, qX7_feed_6, qX7_feed_9, qX7_feed_12, qX7_feed_14, qX7_feed_15, qX7_feed_16, qX7_feed_19, qX7_feed_20, qX7_feed_21, qX7_feed_24, qX7_feed_27, qX7_feed_29, qX7_feed_30, qX7_feed_31, qX7_feed_32, qX7_feed_33, qX7_feed_37, qX7_feed_40, qX7_feed_41, qX7_feed_44, qX7_feed_45, qX7_feed_48, qX7_feed_49, qX7_feed_51, qX7_feed_53, qX7_feed_54, qX7_feed_55, qX7_feed_58, qX7_feed_59, qX7_feed_60, qX7_feed_61, qX7_feed_62, qX7_feed_63, qX7_feed_66, qX7_feed_67, qX7_feed_68, qX7_feed_71, qX7_feed_74, qX7_feed_77, qX7_feed_78, qX7_feed_81, s_Min, hc, and_self, if_true, show ¬ (1 : Int32) = 0 by decide, if_false, Option.toList, List.cons_append, List.nil_append, ht.2.1, nI_add, e1]
  · refine ⟨-1000000002, σ, μ, h, fun d P => ?_, fun d P => ?_⟩
    · have hq : c < 1 ∨ (¬ c < 1 ∧ ¬ c ≤ 8) := by
        by_cases h1 : c < 1
        · exact Or.inl h1
        · refine Or.inr ⟨h1, fun h2 => hw ?_⟩
          have h0 : ¬ c < 0 := fun h0 => h1 (Int32.lt_trans h0 (by decide))
          obtain ⟨k, hk, rfl⟩ := nI_of h0
          have q1 : k ≤ 8 := (nI_leI (b := 8) hk (by decide)).mp h2
          exact ⟨k, by
            rcases Nat.eq_zero_or_pos k with rfl | hp
            · exact absurd (by decide) h1
            · exact hp, q1, rfl⟩
      rw [in_X6_feed]
      rcases hq with hq | ⟨hq, hq2⟩
      · simp only [qX6_feed_0, qX6_feed_1, qX6_feed_2, qX6_feed_5, qX6_feed_6, qX6_feed_8, qX6_feed_11, qX6_feed_13, qX6_feed_14, qX6_feed_15, qX6_feed_18, qX6_feed_21, qX6_feed_22, qX6_feed_23, qX6_feed_26, qX6_feed_29, qX6_feed_31, qX6_feed_32, qX6_feed_33, qX6_feed_34, qX6_feed_35, qX6_feed_39, qX6_feed_42, qX6_feed_43, qX6_feed_46, qX6_feed_47, qX6_feed_49, qX6_feed_51, qX6_feed_52, qX6_feed_53, qX6_feed_54, qX6_feed_55, qX6_feed_58, qX6_feed_61, qX6_feed_64, qX6_feed_65, qX6_feed_68, qX6_feed_71, hq, if_true]
      · simp only [qX6_feed_0, qX6_feed_1, qX6_feed_2, qX6_feed_5, qX6_feed_6, qX6_feed_8, qX6_feed_11, qX6_feed_13, qX6_feed_14, qX6_feed_15, qX6_feed_18, qX6_feed_21, qX6_feed_22, qX6_feed_23, qX6_feed_26, qX6_feed_29, qX6_feed_31, qX6_feed_32, qX6_feed_33, qX6_feed_34, qX6_feed_35, qX6_feed_39, qX6_feed_42, qX6_feed_43, qX6_feed_46, qX6_feed_47, qX6_feed_49, qX6_feed_51, qX6_feed_52, qX6_feed_53, qX6_feed_54, qX6_feed_55, qX6_feed_58, qX6_feed_61, qX6_feed_64, qX6_feed_65, qX6_feed_68, qX6_feed_71, hq, hq2, if_false]
    · have hi : ¬ ((1 : Int64) ≤ c.toInt64 ∧ c.toInt64 ≤ 8) := in_no (a := 1) (b := 8) rfl rfl (by decide) (by decide) hw
      rw [in_X7_feed]
      simp only [qX7_feed_0, qX7_feed_1, qX7_feed_2, qX7_feed_3, qX7_feed_6, qX7_feed_9, qX7_feed_12, qX7_feed_14, qX7_feed_15, qX7_feed_16, qX7_feed_19, qX7_feed_20, qX7_feed_21, qX7_feed_24, qX7_feed_27, qX7_feed_29, qX7_feed_30, qX7_feed_31, qX7_feed_32, qX7_feed_33, qX7_feed_37, qX7_feed_40, qX7_feed_41, qX7_feed_44, qX7_feed_45, qX7_feed_48, qX7_feed_49, qX7_feed_51, qX7_feed_53, qX7_feed_54, qX7_feed_55, qX7_feed_58, qX7_feed_59, qX7_feed_60, qX7_feed_61, qX7_feed_62, qX7_feed_63, qX7_feed_66, qX7_feed_67, qX7_feed_68, qX7_feed_71, qX7_feed_74, qX7_feed_77, qX7_feed_78, qX7_feed_81, s_Min, hi, if_true, if_false, Option.toList, List.cons_append, List.nil_append]
