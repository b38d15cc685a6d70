/-! CALLS: drift -/
def FrC (σ τ : mm_M) : Prop := ∀ k, (k < 3 ∨ (33 ≤ k ∧ k ≠ 41)) → τ.1 k = σ.1 k
def FrM (μ ν : mm_M) : Prop := (∀ k, k = 8 ∨ 20 ≤ k → ν.1 k = μ.1 k) ∧ ∀ j, j = 13 ∨ j = 14 ∨ j = 36 ∨ j = 38 → ν.1 0 j = μ.1 0 j
theorem FrC.tr {σ τ υ : mm_M} (h : FrC σ τ) (k : FrC τ υ) : FrC σ υ := fun i hi => (k i hi).trans (h i hi)
theorem FrM.tr {σ τ υ : mm_M} (h : FrM σ τ) (k : FrM τ υ) : FrM σ υ := ⟨fun i hi => (k.1 i hi).trans (h.1 i hi), fun i hi => (k.2 i hi).trans (h.2 i hi)⟩
theorem AgC.fr {σ τ : mm_M} (h : AgC σ τ) : FrC σ τ := fun k hk => h k (by omega)
theorem AgM.fr {σ τ : mm_M} (h : AgM σ τ) : FrM σ τ := ⟨fun k hk => h.1 k (by omega), fun j hj => h.2 j (by omega)⟩
/-- all but town and letters as before, and a town of as many letters -/
theorem Inv.fr {σ μ σ' μ' : mm_M} {n np : Nat} (h2 : TxR σ μ) (h3 : σ.1 1 3 = μ.1 0 14) (h4 : CmR σ μ n) (h5 : BkR σ μ n) (h6 : ImR σ μ n np 33 0) (h7 : ImR σ μ n np 37 1) (h1 : TwR σ' μ' n np) (hc : FrC σ σ') (hm : FrM μ μ') : Inv σ' μ' := by
  have c0 := hc 0 (by omega); have c1 := hc 1 (by omega); have c2 := hc 2 (by omega)
  have c33 := hc 33 (by omega); have c34 := hc 34 (by omega); have c35 := hc 35 (by omega); have c36 := hc 36 (by omega); have c37 := hc 37 (by omega); have c38 := hc 38 (by omega); have c39 := hc 39 (by omega); have c40 := hc 40 (by omega)
  have c42 := hc 42 (by omega); have c43 := hc 43 (by omega); have c44 := hc 44 (by omega)
  have m8 := hm.1 8 (by omega)
  have m20 := hm.1 20 (by omega); have m21 := hm.1 21 (by omega); have m22 := hm.1 22 (by omega); have m23 := hm.1 23 (by omega); have m24 := hm.1 24 (by omega)
  have f13 := hm.2 13 (by omega); have f14 := hm.2 14 (by omega); have f36 := hm.2 36 (by omega); have f38 := hm.2 38 (by omega)
  refine ⟨n, np, h1, ?_, ?_, ?_, ?_, ?_, ?_⟩
  · unfold TxR; rw [c1, c2, m8, f13]; exact h2
  · rw [c1, f14]; exact h3
  · unfold CmR; rw [c0, c42, m20, f36]; exact h4
  · unfold BkR; rw [c0, c43, c44, m21, m22, f38]; exact h5
  · unfold ImR at h6 ⊢; simp only [c33, c34, c35, c36, m23, m24, Nat.reduceAdd] at h6 ⊢; exact h6
  · unfold ImR at h7 ⊢; simp only [c37, c38, c39, c40, m23, m24, Nat.reduceAdd] at h7 ⊢; exact h7
theorem TwR.ag {σ μ σ' μ' : mm_M} {n np : Nat} (h1 : TwR σ μ n np) (hc : AgC σ σ') (hm : AgM μ μ') : TwR σ' μ' n np := by
  have c11 := hc 11 (by omega); have c12 := hc 12 (by omega); have c13 := hc 13 (by omega); have c14 := hc 14 (by omega); have c15 := hc 15 (by omega); have c16 := hc 16 (by omega); have c17 := hc 17 (by omega); have c18 := hc 18 (by omega)
  have m1 := hm.1 1 (by omega); have m2 := hm.1 2 (by omega); have m3 := hm.1 3 (by omega); have m4 := hm.1 4 (by omega); have m5 := hm.1 5 (by omega); have m6 := hm.1 6 (by omega); have m7 := hm.1 7 (by omega)
  have f0 := hm.2 0 (by omega); have f3 := hm.2 3 (by omega); have f9 := hm.2 9 (by omega); have f10 := hm.2 10 (by omega); have f11 := hm.2 11 (by omega)
  unfold TwR; rw [c11, c12, c13, c14, c15, c16, c17, c18, m1, m2, m3, m4, m5, m6, m7, f0, f3, f9, f10, f11]; exact h1
/-- the next seed -/
def dwF (s : Nat) : Nat := (s * 1103515245 + 12345) % 2147483648
theorem dwF_lt (s : Nat) : dwF s < 2 ^ 31 := Nat.mod_lt _ (by decide)
theorem maskL (n k : Nat) (hk : k < 63) : lN n &&& lN (2 ^ k - 1) = lN (n % 2 ^ k) := by
  apply Int64.toBitVec_inj.1
  show BitVec.ofNat 64 n &&& BitVec.ofNat 64 (2 ^ k - 1) = BitVec.ofNat 64 (n % 2 ^ k)
  apply BitVec.eq_of_getLsbD_eq
  intro i hi
  simp only [BitVec.getLsbD_and, BitVec.getLsbD_ofNat, hi, decide_true, Bool.true_and, Nat.testBit_two_pow_sub_one, Nat.testBit_mod_two_pow]
  rw [Bool.and_comm]
theorem s_draw {d s m : Nat} {P : mm_O} {σ : mm_M} (hs : s < 2 ^ 31) (hσ : σ.1 11 11 = nI s) (hm0 : 0 < m) (hm : m < 2 ^ 31) : mm_run shC (d + 1) 45 [.ref 11, .int (nI m)] σ P = P (some (.int (nI (dwF s / 65536 % m)))) (mm_sti σ 11 11 (nI (dwF s))) := by
  have hd := dwF_lt s
  have e : ((nI s).toInt64 * 1103515245 + 12345 &&& 2147483647 : Int64).toInt32 = nI (dwF s) := by
    rw [nI_l hs, show (1103515245 : Int64) = lN 1103515245 from rfl, show (12345 : Int64) = lN 12345 from rfl, show (2147483647 : Int64) = lN (2 ^ 31 - 1) from rfl, lN_mul, lN_add, maskL _ 31 (by decide), lN_i]
    rfl
  rw [in_X5_draw]
  simp only [qX5_draw_0, qX5_draw_1, qX5_draw_2a, qX5_draw_2b, qX5_draw_5, qX5_draw_6, qX5_draw_9, qX5_draw_10, qX5_draw_13, qX5_draw_14, qX5_draw_17, qX5_draw_18, qX5_draw_19a, qX5_draw_19b, qX5_draw_22, qX5_draw_23, qX5_draw_26, qX5_draw_27a, qX5_draw_27b, qX5_draw_30, qX5_draw_32, qX5_draw_33, qX5_draw_34, qX5_draw_35, qX5_draw_38, qX5_draw_39, hσ, e, nI_nle hm0 hm, if_false, mm_sti_set, mm_set_1, upd_1, if_true]
  rw [show (65536 : Int32) = nI 65536 from rfl, pk_div hd (by decide) (by decide), pk_rem (by have := Nat.div_le_self (dwF s) 65536; omega) hm0 hm]
  simp only [nI_ne0 (show 0 < 65536 by decide) (by decide), nI_ne0 hm0 hm, not_false_eq_true, true_and]
theorem s_Mdraw {d s m : Nat} {P : mm_O} {μ : mm_M} (hs : s < 2 ^ 31) (hμ : μ.1 0 11 = nI s) (hm0 : 0 < m) (hm : m < 2 ^ 31) : mm_run shM (d + 1) 118 [.ref 0, .int (nI m)] μ P = P (some (.int (nI (dwF s / 65536 % m)))) (mm_sti μ 0 11 (nI (dwF s))) := by
  have hd := dwF_lt s
  have e : ((nI s).toInt64 * 1103515245 + 12345 - ((nI s).toInt64 * 1103515245 + 12345) / 2147483648 * 2147483648 : Int64).toInt32 = nI (dwF s) := by
    rw [nI_l hs, show (1103515245 : Int64) = lN 1103515245 from rfl, show (12345 : Int64) = lN 12345 from rfl, show (2147483648 : Int64) = lN 2147483648 from rfl, lN_mul, lN_add, pk_lRem (by omega) (by decide) (by decide), lN_i]
    rfl
  rw [in_X7_draw]
  simp only [qX7_draw_0, qX7_draw_1, qX7_draw_2, qX7_draw_5, qX7_draw_6, qX7_draw_9, qX7_draw_10, qX7_draw_13, qX7_draw_14, qX7_draw_17, qX7_draw_18, qX7_draw_19, qX7_draw_22, qX7_draw_23, qX7_draw_26, qX7_draw_29, qX7_draw_30, qX7_draw_31, qX7_draw_32, hμ, e, show ¬ (2147483648 : Int64) = 0 by decide, not_false_eq_true, true_and, mm_sti_set, mm_set_1, upd_1, if_true]
  rw [show (65536 : Int32) = nI 65536 from rfl, pk_div hd (by decide) (by decide), pk_rem (by have := Nat.div_le_self (dwF s) 65536; omega) hm0 hm]
  simp only [nI_ne0 (show 0 < 65536 by decide) (by decide), nI_ne0 hm0 hm, not_false_eq_true, true_and]
theorem draw_ex {s m : Nat} (hs : s < 2 ^ 31) (hm0 : 0 < m) (hm : m < 2 ^ 31) : ∃ s1 q : Nat, s1 < 2 ^ 31 ∧ q < m ∧ (∀ (σ : mm_M), σ.1 11 11 = nI s → ∀ (d : Nat) (P : mm_O), mm_run shC (d + 1) 45 [.ref 11, .int (nI m)] σ P = P (some (.int (nI q))) (mm_sti σ 11 11 (nI s1))) ∧ ∀ (μ : mm_M), μ.1 0 11 = nI s → ∀ (d : Nat) (P : mm_O), mm_run shM (d + 1) 118 [.ref 0, .int (nI m)] μ P = P (some (.int (nI q))) (mm_sti μ 0 11 (nI s1)) :=
  ⟨dwF s, dwF s / 65536 % m, dwF_lt s, Nat.mod_lt _ hm0, fun σ h d P => s_draw hs h hm0 hm, fun μ h d P => s_Mdraw hs h hm0 hm⟩
/-- letter k drawn anew -/
def drC (σ : mm_M) (k w g s : Nat) : mm_M := mm_set (mm_set (mm_set (mm_set σ 11 (upd (σ.1 11) 11 (nI s))) 15 (upd (σ.1 15) k (nI w))) 14 (upd (σ.1 14) k (nI g))) 18 (upd (σ.1 18) k 0)
def drM (μ : mm_M) (k w g s : Nat) : mm_M := mm_set (mm_set (mm_set (mm_set μ 0 (upd (μ.1 0) 11 (nI s))) 4 (upd (μ.1 4) k (nI w))) 3 (upd (μ.1 3) k (nI g))) 7 (upd (μ.1 7) k 0)
theorem TwR.draw {σ μ : mm_M} {n np k w g s : Nat} (h : TwR σ μ n np) (hw : 1 ≤ w ∧ w ≤ 99) (hg : g < np) (hs : s < 2 ^ 31) : TwR (drC σ k w g s) (drM μ k w g s) n np := by
  obtain ⟨q1, q2, q3, q4, q5, q6, q7⟩ := h
  unfold TwR drC drM
  simp only [mm_set_1, Nat.reduceEqDiff, if_true, if_false]
  refine ⟨by simpa [upd_1] using q1, by simpa [upd_1] using q2, q3, fun l hl => ?_, by simpa [upd_1] using q5, by simpa [upd_1] using q6, by simp [upd_1]; exact Int32.not_lt.mp (nI_neg hs)⟩
  obtain ⟨⟨r1, r2, r3, r4, r5⟩, r6, r7, r8, r9, r10⟩ := q4 l hl
  simp only [upd_1]
  by_cases e : l = k
  · simp only [e, if_true]
    subst e
    exact ⟨⟨trivial, trivial, r3, r4, trivial⟩, ⟨g, hg, rfl⟩, ⟨w, hw.1, hw.2, rfl⟩, r8, r9, ⟨0, by omega, by omega, rfl⟩⟩
  · simp only [e, if_false]
    exact ⟨⟨r1, r2, r3, r4, r5⟩, r6, r7, r8, r9, r10⟩
theorem drC_fr (σ : mm_M) (k w g s : Nat) : FrC σ (drC σ k w g s) := fun i hi => by
  unfold drC
  rw [mm_set_ne _ _ (by omega), mm_set_ne _ _ (by omega), mm_set_ne _ _ (by omega), mm_set_ne _ _ (by omega)]
theorem drM_fr (μ : mm_M) (k w g s : Nat) : FrM μ (drM μ k w g s) := ⟨fun i hi => by
  unfold drM
  rw [mm_set_ne _ _ (by omega), mm_set_ne _ _ (by omega), mm_set_ne _ _ (by omega), mm_set_ne _ _ (by omega)], fun j hj => by
  unfold drM
  rw [mm_set_ne _ _ (by omega), mm_set_ne _ _ (by omega), mm_set_ne _ _ (by omega), mm_set_same, upd_1, if_neg (by omega)]⟩
theorem draws {n np : Nat} : ∀ (j k : Nat) (σ μ : mm_M), j + k = n → TwR σ μ n np → ∃ σ' μ' : mm_M, TwR σ' μ' n np ∧ FrC σ σ' ∧ FrM μ μ' ∧ (∀ (d : Nat) (P : mm_O), mm_at shC (d + 1) 44 [] P 2 [.ref 11, .int (nI k)] [] σ = P none σ') ∧ ∀ (d : Nat) (P : mm_O) (a1 a2 a3 : Value), mm_at shM (d + 1) 119 [] P 38 [.ref 0, a1, a2, a3, .int (nI k)] [] μ = mm_at shM (d + 1) 119 [] P 91 [.ref 0, a1, a2, a3, .int (nI n)] [] μ' := by
  intro j
  induction j with
  | zero =>
    intro k σ μ hk h
    have hk : k = n := by omega
    subst hk
    have hn := h.2.1.2.2
    refine ⟨σ, μ, h, fun _ _ => rfl, ⟨fun _ _ => rfl, fun _ _ => rfl⟩, fun d P => ?_, fun d P a1 a2 a3 => ?_⟩
    · rw [qX5_drawLetters_2]
      simp only [qX5_drawLetters_0, qX5_drawLetters_1, qX5_drawLetters_3, qX5_drawLetters_4a, qX5_drawLetters_4b, qX5_drawLetters_7, qX5_drawLetters_10, qX5_drawLetters_11a, qX5_drawLetters_11b, qX5_drawLetters_14, qX5_drawLetters_15, qX5_drawLetters_16, qX5_drawLetters_18a, qX5_drawLetters_18b, qX5_drawLetters_21, qX5_drawLetters_22, qX5_drawLetters_23, qX5_drawLetters_26, qX5_drawLetters_27a, qX5_drawLetters_27b, qX5_drawLetters_30, qX5_drawLetters_31, qX5_drawLetters_32, qX5_drawLetters_33a, qX5_drawLetters_33b, qX5_drawLetters_36a, qX5_drawLetters_36b, qX5_drawLetters_39, qX5_drawLetters_42, qX5_drawLetters_43a, qX5_drawLetters_43b, qX5_drawLetters_46, qX5_drawLetters_47, qX5_drawLetters_48, qX5_drawLetters_51, qX5_drawLetters_54, qX5_drawLetters_57, h.2.1.1, show nI k ≤ nI k from nI_le (Nat.le_refl k) (by omega), if_true]
    · rw [qX7_drift_38]
      simp only [qX7_drift_0, qX7_drift_1, qX7_drift_2, qX7_drift_3, qX7_drift_6, qX7_drift_9, qX7_drift_12, qX7_drift_14, qX7_drift_15, qX7_drift_16, qX7_drift_19, qX7_drift_22, qX7_drift_25, qX7_drift_26, qX7_drift_27, qX7_drift_28, qX7_drift_29, qX7_drift_31, qX7_drift_32, qX7_drift_35, qX7_drift_36, qX7_drift_40, qX7_drift_41, qX7_drift_44, qX7_drift_47, qX7_drift_48, qX7_drift_51, qX7_drift_53, qX7_drift_54, qX7_drift_56, qX7_drift_59, qX7_drift_60, qX7_drift_61, qX7_drift_62, qX7_drift_63, qX7_drift_66, qX7_drift_68, qX7_drift_69, qX7_drift_70, qX7_drift_73, qX7_drift_76, qX7_drift_77, qX7_drift_78, qX7_drift_81, qX7_drift_83, qX7_drift_84, qX7_drift_85, qX7_drift_88, qX7_drift_92, qX7_drift_95, qX7_drift_97, qX7_drift_98, qX7_drift_100, qX7_drift_101, qX7_drift_102, qX7_drift_105, qX7_drift_108, qX7_drift_109, h.2.1.2.1, show nI k ≤ nI k from nI_le (Nat.le_refl k) (by omega), if_true]
  | succ j ih =>
    intro k σ μ hk h
    have hn := h.2.1.2.2
    have hkn : k < n := by omega
    have hk7 : k < 7 := by omega
    have h1 : ¬ nI n ≤ nI k := nI_ge (by omega) (by omega)
    have h2 : vp_in (nI k) 7 := vp_in_nI hk7 (by decide)
    have h3 : (nI k).toNatClampNeg = k := nI_clamp (by omega)
    obtain ⟨s, hs, es⟩ := nI_of h.2.2.2.2.2.2.2
    have em : μ.1 0 11 = nI s := by rw [← h.2.2.2.2.2.2.1]; exact es
    have hnp := h.np0 (by omega)
    have hnp7 := h.1.2.2
    obtain ⟨s1, w, hs1, hw, f1, g1⟩ := draw_ex (m := 99) hs (by decide) (by decide)
    obtain ⟨s2, g, hs2, hg, f2, g2⟩ := draw_ex (m := np) hs1 hnp (by omega)
    obtain ⟨σ', μ', i1, i2, i3, i4, i5⟩ := ih (k + 1) _ _ (by omega) (h.draw (k := k) (w := w + 1) ⟨by omega, by omega⟩ hg hs2)
    refine ⟨σ', μ', i1, (drC_fr _ _ _ _ _).tr i2, (drM_fr _ _ _ _ _).tr i3, fun d P => ?_, fun d P a1 a2 a3 => ?_⟩
    · rw [← i4 d P]
      rw [qX5_drawLetters_2]
      simp only [qX5_drawLetters_0, qX5_drawLetters_1, qX5_drawLetters_3, qX5_drawLetters_4a, qX5_drawLetters_4b, qX5_drawLetters_7, qX5_drawLetters_10, qX5_drawLetters_11a, qX5_drawLetters_11b, qX5_drawLetters_14, qX5_drawLetters_15, qX5_drawLetters_16, qX5_drawLetters_18a, qX5_drawLetters_18b, qX5_drawLetters_21, qX5_drawLetters_22, qX5_drawLetters_23, qX5_drawLetters_26, qX5_drawLetters_27a, qX5_drawLetters_27b, qX5_drawLetters_30, qX5_drawLetters_31, qX5_drawLetters_32, qX5_drawLetters_33a, qX5_drawLetters_33b, qX5_drawLetters_36a, qX5_drawLetters_36b, qX5_drawLetters_39, qX5_drawLetters_42, qX5_drawLetters_43a, qX5_drawLetters_43b, qX5_drawLetters_46, qX5_drawLetters_47, qX5_drawLetters_48, qX5_drawLetters_51, qX5_drawLetters_54, qX5_drawLetters_57, h.2.1.1, h1, if_false, show (99 : Int32) = nI 99 from rfl, f1 σ es, s_put_15, Option.toList, List.cons_append, List.nil_append, nI_1]
      rw [putF_in _ _ hk7 (by decide)]
      simp only [mm_sti_set, mm_set_1, upd_1, Nat.reduceEqDiff, if_true, if_false, h.1.1]
      rw [f2 _ (by simp [mm_set_1, upd_1])]
      simp only [qX5_drawLetters_0, qX5_drawLetters_1, qX5_drawLetters_3, qX5_drawLetters_4a, qX5_drawLetters_4b, qX5_drawLetters_7, qX5_drawLetters_10, qX5_drawLetters_11a, qX5_drawLetters_11b, qX5_drawLetters_14, qX5_drawLetters_15, qX5_drawLetters_16, qX5_drawLetters_18a, qX5_drawLetters_18b, qX5_drawLetters_21, qX5_drawLetters_22, qX5_drawLetters_23, qX5_drawLetters_26, qX5_drawLetters_27a, qX5_drawLetters_27b, qX5_drawLetters_30, qX5_drawLetters_31, qX5_drawLetters_32, qX5_drawLetters_33a, qX5_drawLetters_33b, qX5_drawLetters_36a, qX5_drawLetters_36b, qX5_drawLetters_39, qX5_drawLetters_42, qX5_drawLetters_43a, qX5_drawLetters_43b, qX5_drawLetters_46, qX5_drawLetters_47, qX5_drawLetters_48, qX5_drawLetters_51, qX5_drawLetters_54, qX5_drawLetters_57, s_put_14, s_put_18, mm_sti_set, mm_set_1, upd_1, Nat.reduceEqDiff, if_true, if_false, Option.toList, List.cons_append, List.nil_append, nI_1]
      rw [putF_in _ _ hk7 (by decide), putF_in _ _ hk7 (by decide)]
      have em2 : mm_set (mm_set (mm_set (mm_set (mm_set σ 11 (upd (σ.1 11) 11 (nI s1))) 15 (upd (σ.1 15) k (nI (w + 1)))) 11 (upd (upd (σ.1 11) 11 (nI s1)) 11 (nI s2))) 14 (upd (σ.1 14) k (nI (g)))) 18 (upd (σ.1 18) k 0) = drC σ k (w + 1) (g) s2 := by
        refine mm_ext (fun i => ?_) rfl
        unfold drC
        simp only [mm_set_1]
        by_cases e18 : i = 18
        · simp [e18]
        · by_cases e14 : i = 14
          · simp [e14]
          · by_cases e11 : i = 11
            · subst e11
              funext q
              simp only [if_true, upd_1]
              by_cases e : q = 11 <;> simp [e, upd_1]
            · simp [e18, e14, e11]
      rw [em2]
    · rw [← i5 d P a1 a2 a3]
      rw [qX7_drift_38]
      simp only [qX7_drift_0, qX7_drift_1, qX7_drift_2, qX7_drift_3, qX7_drift_6, qX7_drift_9, qX7_drift_12, qX7_drift_14, qX7_drift_15, qX7_drift_16, qX7_drift_19, qX7_drift_22, qX7_drift_25, qX7_drift_26, qX7_drift_27, qX7_drift_28, qX7_drift_29, qX7_drift_31, qX7_drift_32, qX7_drift_35, qX7_drift_36, qX7_drift_40, qX7_drift_41, qX7_drift_44, qX7_drift_47, qX7_drift_48, qX7_drift_51, qX7_drift_53, qX7_drift_54, qX7_drift_56, qX7_drift_59, qX7_drift_60, qX7_drift_61, qX7_drift_62, qX7_drift_63, qX7_drift_66, qX7_drift_68, qX7_drift_69, qX7_drift_70, qX7_drift_73, qX7_drift_76, qX7_drift_77, qX7_drift_78, qX7_drift_81, qX7_drift_83, qX7_drift_84, qX7_drift_85, qX7_drift_88, qX7_drift_92, qX7_drift_95, qX7_drift_97, qX7_drift_98, qX7_drift_100, qX7_drift_101, qX7_drift_102, qX7_drift_105, qX7_drift_108, qX7_drift_109, h.2.1.2.1, h1, h2, h3, true_and, if_false, show (99 : Int32) = nI 99 from rfl, g1 μ em, mm_sti_set, mm_set_1, upd_1, Nat.reduceEqDiff, if_true, h.1.2.1, Option.toList, List.cons_append, List.nil_append, nI_1]
      rw [g2 _ (by simp [mm_set_1, upd_1])]
      simp only [qX7_drift_0, qX7_drift_1, qX7_drift_2, qX7_drift_3, qX7_drift_6, qX7_drift_9, qX7_drift_12, qX7_drift_14, qX7_drift_15, qX7_drift_16, qX7_drift_19, qX7_drift_22, qX7_drift_25, qX7_drift_26, qX7_drift_27, qX7_drift_28, qX7_drift_29, qX7_drift_31, qX7_drift_32, qX7_drift_35, qX7_drift_36, qX7_drift_40, qX7_drift_41, qX7_drift_44, qX7_drift_47, qX7_drift_48, qX7_drift_51, qX7_drift_53, qX7_drift_54, qX7_drift_56, qX7_drift_59, qX7_drift_60, qX7_drift_61, qX7_drift_62, qX7_drift_63, qX7_drift_66, qX7_drift_68, qX7_drift_69, qX7_drift_70, qX7_drift_73, qX7_drift_76, qX7_drift_77, qX7_drift_78, qX7_drift_81, qX7_drift_83, qX7_drift_84, qX7_drift_85, qX7_drift_88, qX7_drift_92, qX7_drift_95, qX7_drift_97, qX7_drift_98, qX7_drift_100, qX7_drift_101, qX7_drift_102, qX7_drift_105, qX7_drift_108, qX7_drift_109, h2, h3, true_and, mm_sti_set, mm_set_1, upd_1, Nat.reduceEqDiff, if_true, if_false, Option.toList, List.cons_append, List.nil_append, nI_1]
      have em2 : mm_set (mm_set (mm_set (mm_set (mm_set μ 0 (upd (μ.1 0) 11 (nI s1))) 4 (upd (μ.1 4) k (nI (w + 1)))) 0 (upd (upd (μ.1 0) 11 (nI s1)) 11 (nI s2))) 3 (upd (μ.1 3) k (nI (g)))) 7 (upd (μ.1 7) k 0) = drM μ k (w + 1) (g) s2 := by
        refine mm_ext (fun i => ?_) rfl
        unfold drM
        simp only [mm_set_1]
        by_cases e18 : i = 7
        · simp [e18]
        · by_cases e14 : i = 3
          · simp [e14]
          · by_cases e11 : i = 0
            · subst e11
              funext q
              simp only [if_true, upd_1]
              by_cases e : q = 11 <;> simp [e, upd_1]
            · simp [e18, e14, e11]
      rw [em2]
theorem drift_loop {n np m : Nat} (hm : m ≤ 99) : ∀ (j k : Nat) (σ μ : mm_M) (acc : Int32), j + k = m → TwR σ μ n np → ∃ (r : Int32) (σ' μ' : mm_M), TwR σ' μ' n np ∧ FrC σ σ' ∧ FrM μ μ' ∧ (∀ (d : Nat) (P : mm_O), mm_at shC (d + 6) 57 [] P 31 [.ref 0, .int (nI m), .int acc, .int (nI k)] [] σ = P (some (.int r)) σ') ∧ ∀ (d : Nat) (P : mm_O) (a4 : Value), mm_at shM (d + 6) 119 [] P 30 [.ref 0, .int (nI m), .int acc, .int (nI k), a4] [] μ = P (some (.int r)) μ' := by
  intro j
  induction j with
  | zero =>
    intro k σ μ acc hk h
    have hk : k = m := by omega
    subst hk
    refine ⟨acc, σ, μ, h, fun _ _ => rfl, ⟨fun _ _ => rfl, fun _ _ => rfl⟩, fun d P => ?_, fun d P a4 => ?_⟩
    · rw [qX6_drift_31]
      simp only [qX6_drift_0, qX6_drift_1, qX6_drift_2, qX6_drift_5, qX6_drift_6, qX6_drift_8, qX6_drift_11, qX6_drift_13, qX6_drift_14, qX6_drift_15, qX6_drift_18, qX6_drift_21, qX6_drift_24, qX6_drift_26, qX6_drift_27, qX6_drift_28, qX6_drift_29, qX6_drift_30, qX6_drift_32, qX6_drift_33, qX6_drift_36, qX6_drift_37, qX6_drift_40, qX6_drift_43, qX6_drift_44, qX6_drift_47, qX6_drift_48, qX6_drift_51, qX6_drift_52, qX6_drift_55, qX6_drift_58, qX6_drift_61, qX6_drift_62, qX6_drift_63, qX6_drift_66, qX6_drift_67, qX6_drift_70, qX6_drift_71, qX6_drift_74, qX6_drift_77, qX6_drift_80, qX6_drift_81, qX6_drift_82, qX6_drift_85, qX6_drift_88, qX6_drift_89, show nI k ≤ nI k from nI_le (Nat.le_refl k) (by omega), if_true]
    · rw [qX7_drift_30]
      simp only [qX7_drift_0, qX7_drift_1, qX7_drift_2, qX7_drift_3, qX7_drift_6, qX7_drift_9, qX7_drift_12, qX7_drift_14, qX7_drift_15, qX7_drift_16, qX7_drift_19, qX7_drift_22, qX7_drift_25, qX7_drift_26, qX7_drift_27, qX7_drift_28, qX7_drift_29, qX7_drift_31, qX7_drift_32, qX7_drift_35, qX7_drift_36, qX7_drift_40, qX7_drift_41, qX7_drift_44, qX7_drift_47, qX7_drift_48, qX7_drift_51, qX7_drift_53, qX7_drift_54, qX7_drift_56, qX7_drift_59, qX7_drift_60, qX7_drift_61, qX7_drift_62, qX7_drift_63, qX7_drift_66, qX7_drift_68, qX7_drift_69, qX7_drift_70, qX7_drift_73, qX7_drift_76, qX7_drift_77, qX7_drift_78, qX7_drift_81, qX7_drift_83, qX7_drift_84, qX7_drift_85, qX7_drift_88, qX7_drift_91, qX7_drift_92, qX7_drift_95, qX7_drift_97, qX7_drift_98, qX7_drift_100, qX7_drift_101, qX7_drift_102, qX7_drift_105, qX7_drift_108, qX7_drift_109, show nI k ≤ nI k from nI_le (Nat.le_refl k) (by omega), if_true]
  | succ j ih =>
    intro k σ μ acc hk h
    have h1 : ¬ nI m ≤ nI k := nI_ge (by omega) (by omega)
    obtain ⟨σ1, μ1, d1, d2, d3, d4, d5⟩ := draws n 0 σ μ (by omega) h
    have hT := d1.okT
    have hM := d1.okM
    have hc8 : (layF σ1 19 20 21 22 18 n).1 11 8 = nI n := by rw [layF_o (by decide) (by decide) (by decide) (by decide)]; exact hT.1
    have hhad := sumF_congr (k := n) (fun l hl => had_eq d1 hl)
    obtain ⟨r, σ', μ', i1, i2, i3, i4, i5⟩ := ih (k + 1) _ _ (acc + sumF (hadM (wnF μ1 n)) n) (by omega) (d1.ag (layF_ag σ1 18 n) (wnF_ag μ1 n))
    refine ⟨r, σ', μ', i1, (d2.tr (layF_ag σ1 18 n).fr).tr i2, (d3.tr (wnF_ag μ1 n).fr).tr i3, fun d P => ?_, fun d P a4 => ?_⟩
    · rw [← i4 d P]
      have dr : ∀ Q : mm_O, mm_run shC (d + 6) 44 [.ref 11] σ Q = Q none σ1 := fun Q => by
        rw [in_X5_drawLetters]
        simp only [qX5_drawLetters_0, qX5_drawLetters_1, qX5_drawLetters_3, qX5_drawLetters_4a, qX5_drawLetters_4b, qX5_drawLetters_7, qX5_drawLetters_10, qX5_drawLetters_11a, qX5_drawLetters_11b, qX5_drawLetters_14, qX5_drawLetters_15, qX5_drawLetters_16, qX5_drawLetters_18a, qX5_drawLetters_18b, qX5_drawLetters_21, qX5_drawLetters_22, qX5_drawLetters_23, qX5_drawLetters_26, qX5_drawLetters_27a, qX5_drawLetters_27b, qX5_drawLetters_30, qX5_drawLetters_31, qX5_drawLetters_32, qX5_drawLetters_33a, qX5_drawLetters_33b, qX5_drawLetters_36a, qX5_drawLetters_36b, qX5_drawLetters_39, qX5_drawLetters_42, qX5_drawLetters_43a, qX5_drawLetters_43b, qX5_drawLetters_46, qX5_drawLetters_47, qX5_drawLetters_48, qX5_drawLetters_51, qX5_drawLetters_54, qX5_drawLetters_57]
        exact d4 (d + 4) Q
      rw [qX6_drift_31]
      simp only [qX6_drift_0, qX6_drift_1, qX6_drift_2, qX6_drift_5, qX6_drift_6, qX6_drift_8, qX6_drift_11, qX6_drift_13, qX6_drift_14, qX6_drift_15, qX6_drift_18, qX6_drift_21, qX6_drift_24, qX6_drift_26, qX6_drift_27, qX6_drift_28, qX6_drift_29, qX6_drift_30, qX6_drift_32, qX6_drift_33, qX6_drift_36, qX6_drift_37, qX6_drift_40, qX6_drift_43, qX6_drift_44, qX6_drift_47, qX6_drift_48, qX6_drift_51, qX6_drift_52, qX6_drift_55, qX6_drift_58, qX6_drift_61, qX6_drift_62, qX6_drift_63, qX6_drift_66, qX6_drift_67, qX6_drift_70, qX6_drift_71, qX6_drift_74, qX6_drift_77, qX6_drift_80, qX6_drift_81, qX6_drift_82, qX6_drift_85, qX6_drift_88, qX6_drift_89, h1, if_false, dr, s_lay_19 (S := 18) rfl hT (by decide), Option.toList, List.cons_append, List.nil_append]
      rw [s_hadOfAll_19 rfl hT.2.1 hc8, hhad]
      simp only [qX6_drift_0, qX6_drift_1, qX6_drift_2, qX6_drift_5, qX6_drift_6, qX6_drift_8, qX6_drift_11, qX6_drift_13, qX6_drift_14, qX6_drift_15, qX6_drift_18, qX6_drift_21, qX6_drift_24, qX6_drift_26, qX6_drift_27, qX6_drift_28, qX6_drift_29, qX6_drift_30, qX6_drift_32, qX6_drift_33, qX6_drift_36, qX6_drift_37, qX6_drift_40, qX6_drift_43, qX6_drift_44, qX6_drift_47, qX6_drift_48, qX6_drift_51, qX6_drift_52, qX6_drift_55, qX6_drift_58, qX6_drift_61, qX6_drift_62, qX6_drift_63, qX6_drift_66, qX6_drift_67, qX6_drift_70, qX6_drift_71, qX6_drift_74, qX6_drift_77, qX6_drift_80, qX6_drift_81, qX6_drift_82, qX6_drift_85, qX6_drift_88, qX6_drift_89, Option.toList, List.cons_append, List.nil_append, nI_1]
    · rw [← i5 d P (.int (sumF (hadM (wnF μ1 n)) n))]
      rw [qX7_drift_30]
      simp only [qX7_drift_0, qX7_drift_1, qX7_drift_2, qX7_drift_3, qX7_drift_6, qX7_drift_9, qX7_drift_12, qX7_drift_14, qX7_drift_15, qX7_drift_16, qX7_drift_19, qX7_drift_22, qX7_drift_25, qX7_drift_26, qX7_drift_27, qX7_drift_28, qX7_drift_29, qX7_drift_31, qX7_drift_32, qX7_drift_35, qX7_drift_36, qX7_drift_40, qX7_drift_41, qX7_drift_44, qX7_drift_47, qX7_drift_48, qX7_drift_51, qX7_drift_53, qX7_drift_54, qX7_drift_56, qX7_drift_59, qX7_drift_60, qX7_drift_61, qX7_drift_62, qX7_drift_63, qX7_drift_66, qX7_drift_68, qX7_drift_69, qX7_drift_70, qX7_drift_73, qX7_drift_76, qX7_drift_77, qX7_drift_78, qX7_drift_81, qX7_drift_83, qX7_drift_84, qX7_drift_85, qX7_drift_88, qX7_drift_91, qX7_drift_92, qX7_drift_95, qX7_drift_97, qX7_drift_98, qX7_drift_100, qX7_drift_101, qX7_drift_102, qX7_drift_105, qX7_drift_108, qX7_drift_109, h1, if_false]
      rw [show (0 : Int32) = nI 0 from rfl, d5 (d + 5)]
      simp only [qX7_drift_0, qX7_drift_1, qX7_drift_2, qX7_drift_3, qX7_drift_6, qX7_drift_9, qX7_drift_12, qX7_drift_14, qX7_drift_15, qX7_drift_16, qX7_drift_19, qX7_drift_22, qX7_drift_25, qX7_drift_26, qX7_drift_27, qX7_drift_28, qX7_drift_29, qX7_drift_31, qX7_drift_32, qX7_drift_35, qX7_drift_36, qX7_drift_40, qX7_drift_41, qX7_drift_44, qX7_drift_47, qX7_drift_48, qX7_drift_51, qX7_drift_53, qX7_drift_54, qX7_drift_56, qX7_drift_59, qX7_drift_60, qX7_drift_61, qX7_drift_62, qX7_drift_63, qX7_drift_66, qX7_drift_68, qX7_drift_69, qX7_drift_70, qX7_drift_73, qX7_drift_76, qX7_drift_77, qX7_drift_78, qX7_drift_81, qX7_drift_83, qX7_drift_84, qX7_drift_85, qX7_drift_88, qX7_drift_91, qX7_drift_92, qX7_drift_95, qX7_drift_97, qX7_drift_98, qX7_drift_100, qX7_drift_101, qX7_drift_102, qX7_drift_105, qX7_drift_108, qX7_drift_109, s_MhadAll hM, Option.toList, List.cons_append, List.nil_append, nI_1]
theorem call_drift (w : Int32) : Call 57 119 [.int w] := by
  intro σ μ h
  have hI := h
  obtain ⟨n, np, h1, h2, h3, h4, h5, h6, h7⟩ := h
  have hn := h1.2.1.2.2
  by_cases hw : rg w 1 99
  · have hi : (1 : Int64) ≤ w.toInt64 ∧ w.toInt64 ≤ 99 := in_yes (a := 1) (b := 99) rfl rfl (by decide) hw
    obtain ⟨v, hv1, hv, rfl⟩ := hw
    have w1 : ¬ nI v < 1 := show ¬ nI v < nI 1 from nI_nlt hv1 (by omega)
    have w99 : nI v ≤ 99 := nI_le (b := 99) hv (by decide)
    by_cases hn0 : n = 0
    · subst hn0
      have z1 : σ.1 11 8 = 0 := h1.2.1.1
      have z2 : μ.1 0 3 = 0 := h1.2.1.2.1
      refine ⟨-1000000003, σ, μ, hI, fun d P => ?_, fun d P => ?_⟩
      · rw [in_X6_drift]
        simp only [qX6_drift_0, qX6_drift_1, qX6_drift_2, qX6_drift_5, qX6_drift_6, qX6_drift_8, qX6_drift_11, qX6_drift_13, qX6_drift_14, qX6_drift_15, qX6_drift_18, qX6_drift_21, qX6_drift_24, qX6_drift_26, qX6_drift_27, qX6_drift_28, qX6_drift_29, qX6_drift_30, qX6_drift_32, qX6_drift_33, qX6_drift_36, qX6_drift_37, qX6_drift_40, qX6_drift_43, qX6_drift_44, qX6_drift_47, qX6_drift_48, qX6_drift_51, qX6_drift_52, qX6_drift_55, qX6_drift_58, qX6_drift_61, qX6_drift_62, qX6_drift_63, qX6_drift_66, qX6_drift_67, qX6_drift_70, qX6_drift_71, qX6_drift_74, qX6_drift_77, qX6_drift_80, qX6_drift_81, qX6_drift_82, qX6_drift_85, qX6_drift_88, qX6_drift_89, w1, w99, z1, if_true, if_false]
      · rw [in_X7_drift]
        simp only [qX7_drift_0, qX7_drift_1, qX7_drift_2, qX7_drift_3, qX7_drift_6, qX7_drift_9, qX7_drift_12, qX7_drift_14, qX7_drift_15, qX7_drift_16, qX7_drift_19, qX7_drift_22, qX7_drift_25, qX7_drift_26, qX7_drift_27, qX7_drift_28, qX7_drift_29, qX7_drift_31, qX7_drift_32, qX7_drift_35, qX7_drift_36, qX7_drift_40, qX7_drift_41, qX7_drift_44, qX7_drift_47, qX7_drift_48, qX7_drift_51, qX7_drift_53, qX7_drift_54, qX7_drift_56, qX7_drift_59, qX7_drift_60, qX7_drift_61, qX7_drift_62, qX7_drift_63, qX7_drift_66, qX7_drift_68, qX7_drift_69, qX7_drift_70, qX7_drift_73, qX7_drift_76, qX7_drift_77, qX7_drift_78, qX7_drift_81, qX7_drift_83, qX7_drift_84, qX7_drift_85, qX7_drift_88, qX7_drift_91, qX7_drift_92, qX7_drift_95, qX7_drift_97, qX7_drift_98, qX7_drift_100, qX7_drift_101, qX7_drift_102, qX7_drift_105, qX7_drift_108, qX7_drift_109, s_Min, hi, z2, and_self, if_true, if_false, show ¬ (1 : Int32) = 0 by decide, Option.toList, List.cons_append, List.nil_append]
    · obtain ⟨r, σ', μ', i1, i2, i3, i4, i5⟩ := drift_loop hv v 0 σ μ 0 (by omega) h1
      have z1 : ¬ σ.1 11 8 = 0 := by rw [h1.2.1.1]; exact nI_ne0 (by omega) (by omega)
      have z2 : ¬ μ.1 0 3 = 0 := by rw [h1.2.1.2.1]; exact nI_ne0 (by omega) (by omega)
      refine ⟨r, σ', μ', Inv.fr h2 h3 h4 h5 h6 h7 i1 i2 i3, fun d P => ?_, fun d P => ?_⟩
      · rw [in_X6_drift]
        simp only [qX6_drift_0, qX6_drift_1, qX6_drift_2, qX6_drift_5, qX6_drift_6, qX6_drift_8, qX6_drift_11, qX6_drift_13, qX6_drift_14, qX6_drift_15, qX6_drift_18, qX6_drift_21, qX6_drift_24, qX6_drift_26, qX6_drift_27, qX6_drift_28, qX6_drift_29, qX6_drift_30, qX6_drift_32, qX6_drift_33, qX6_drift_36, qX6_drift_37, qX6_drift_40, qX6_drift_43, qX6_drift_44, qX6_drift_47, qX6_drift_48, qX6_drift_51, qX6_drift_52, qX6_drift_55, qX6_drift_58, qX6_drift_61, qX6_drift_62, qX6_drift_63, qX6_drift_66, qX6_drift_67, qX6_drift_70, qX6_drift_71, qX6_drift_74, qX6_drift_77, qX6_drift_80, qX6_drift_81, qX6_drift_82, qX6_drift_85, qX6_drift_88, qX6_drift_89, w1, w99, z1, if_true, if_false]
        exact i4 (d + 33) P
      · rw [in_X7_drift]
        simp only [qX7_drift_0, qX7_drift_1, qX7_drift_2, qX7_drift_3, qX7_drift_6, qX7_drift_9, qX7_drift_12, qX7_drift_14, qX7_drift_15, qX7_drift_16, qX7_drift_19, qX7_drift_22, qX7_drift_25, qX7_drift_26, qX7_drift_27, qX7_drift_28, qX7_drift_29, qX7_drift_31, qX7_drift_32, qX7_drift_35, qX7_drift_36, qX7_drift_40, qX7_drift_41, qX7_drift_44, qX7_drift_47, qX7_drift_48, qX7_drift_51, qX7_drift_53, qX7_drift_54, qX7_drift_56, qX7_drift_59, qX7_drift_60, qX7_drift_61, qX7_drift_62, qX7_drift_63, qX7_drift_66, qX7_drift_68, qX7_drift_69, qX7_drift_70, qX7_drift_73, qX7_drift_76, qX7_drift_77, qX7_drift_78, qX7_drift_81, qX7_drift_83, qX7_drift_84, qX7_drift_85, qX7_drift_88, qX7_drift_91, qX7_drift_92, qX7_drift_95, qX7_drift_97, qX7_drift_98, qX7_drift_100, qX7_drift_101, qX7_drift_102, qX7_drift_105, qX7_drift_108, qX7_drift_109, s_Min, hi, z2, and_self, if_true, if_false, show ¬ (1 : Int32) = 0 by decide, Option.toList, List.cons_append, List.nil_append]
        exact i5 (d + 33) P _
  · refine ⟨-1000000002, σ, μ, hI, fun d P => ?_, fun d P => ?_⟩
    · rw [in_X6_drift]
      by_cases q1 : w < 1
      · simp only [qX6_drift_0, qX6_drift_1, qX6_drift_2, qX6_drift_5, qX6_drift_6, qX6_drift_8, qX6_drift_11, qX6_drift_13, qX6_drift_14, qX6_drift_15, qX6_drift_18, qX6_drift_21, qX6_drift_24, qX6_drift_26, qX6_drift_27, qX6_drift_28, qX6_drift_29, qX6_drift_30, qX6_drift_32, qX6_drift_33, qX6_drift_36, qX6_drift_37, qX6_drift_40, qX6_drift_43, qX6_drift_44, qX6_drift_47, qX6_drift_48, qX6_drift_51, qX6_drift_52, qX6_drift_55, qX6_drift_58, qX6_drift_61, qX6_drift_62, qX6_drift_63, qX6_drift_66, qX6_drift_67, qX6_drift_70, qX6_drift_71, qX6_drift_74, qX6_drift_77, qX6_drift_80, qX6_drift_81, qX6_drift_82, qX6_drift_85, qX6_drift_88, qX6_drift_89, q1, if_true]
      · have q2 : ¬ w ≤ 99 := fun q => hw (by
          have h0 : ¬ w < 0 := fun z => q1 (Int32.lt_trans z (by decide))
          obtain ⟨k, hk, rfl⟩ := nI_of h0
          refine ⟨k, ?_, (nI_leI hk (by decide)).mp q, rfl⟩
          rcases Nat.eq_zero_or_pos k with e | e
          · subst e; exact absurd (by decide) q1
          · exact e)
        simp only [qX6_drift_0, qX6_drift_1, qX6_drift_2, qX6_drift_5, qX6_drift_6, qX6_drift_8, qX6_drift_11, qX6_drift_13, qX6_drift_14, qX6_drift_15, qX6_drift_18, qX6_drift_21, qX6_drift_24, qX6_drift_26, qX6_drift_27, qX6_drift_28, qX6_drift_29, qX6_drift_30, qX6_drift_32, qX6_drift_33, qX6_drift_36, qX6_drift_37, qX6_drift_40, qX6_drift_43, qX6_drift_44, qX6_drift_47, qX6_drift_48, qX6_drift_51, qX6_drift_52, qX6_drift_55, qX6_drift_58, qX6_drift_61, qX6_drift_62, qX6_drift_63, qX6_drift_66, qX6_drift_67, qX6_drift_70, qX6_drift_71, qX6_drift_74, qX6_drift_77, qX6_drift_80, qX6_drift_81, qX6_drift_82, qX6_drift_85, qX6_drift_88, qX6_drift_89, q1, q2, if_false]
    · have hi : ¬ ((1 : Int64) ≤ w.toInt64 ∧ w.toInt64 ≤ 99) := in_no (a := 1) (b := 99) rfl rfl (by decide) (by decide) hw
      rw [in_X7_drift]
      simp only [qX7_drift_0, qX7_drift_1, qX7_drift_2, qX7_drift_3, qX7_drift_6, qX7_drift_9, qX7_drift_12, qX7_drift_14, qX7_drift_15, qX7_drift_16, qX7_drift_19, qX7_drift_22, qX7_drift_25, qX7_drift_26, qX7_drift_27, qX7_drift_28, qX7_drift_29, qX7_drift_31, qX7_drift_32, qX7_drift_35, qX7_drift_36, qX7_drift_40, qX7_drift_41, qX7_drift_44, qX7_drift_47, qX7_drift_48, qX7_drift_51, qX7_drift_53, qX7_drift_54, qX7_drift_56, qX7_drift_59, qX7_drift_60, qX7_drift_61, qX7_drift_62, qX7_drift_63, qX7_drift_66, qX7_drift_68, qX7_drift_69, qX7_drift_70, qX7_drift_73, qX7_drift_76, qX7_drift_77, qX7_drift_78, qX7_drift_81, qX7_drift_83, qX7_drift_84, qX7_drift_85, qX7_drift_88, qX7_drift_91, qX7_drift_92, qX7_drift_95, qX7_drift_97, qX7_drift_98, qX7_drift_100, qX7_drift_101, qX7_drift_102, qX7_drift_105, qX7_drift_108, qX7_drift_109, s_Min, hi, if_true, if_false, Option.toList, List.cons_append, List.nil_append]
