/-! CALLS: keep, goBack -/
theorem Mkeep_loop {μ : mm_M} {base : Nat} {i : Int32} (hb : base + 24 ≤ 60) : ∀ (j k : Nat) (ν : mm_M), j + k = 7 → (∀ c, c ≠ 23 → ν.1 c = μ.1 c) → (∀ q, q < base ∨ base + 21 ≤ q → ν.1 23 q = μ.1 23 q) → (∀ l, l < k → ν.1 23 (base + l) = μ.1 4 l ∧ ν.1 23 (base + 7 + l) = μ.1 3 l ∧ ν.1 23 (base + 14 + l) = μ.1 7 l) → ∃ ν' : mm_M, (∀ c, c ≠ 23 → ν'.1 c = μ.1 c) ∧ (∀ q, q < base ∨ base + 21 ≤ q → ν'.1 23 q = μ.1 23 q) ∧ (∀ l, l < 7 → ν'.1 23 (base + l) = μ.1 4 l ∧ ν'.1 23 (base + 7 + l) = μ.1 3 l ∧ ν'.1 23 (base + 14 + l) = μ.1 7 l) ∧ ∀ (d : Nat) (P : mm_O), mm_at shM d 142 [] P 20 [.ref 0, .int i, .int (nI base), .int (nI k)] [] ν = mm_at shM d 142 [] P 80 [.ref 0, .int i, .int (nI base), .int (nI 7)] [] ν' := by
  intro j
  induction j with
  | zero =>
    intro k ν hk k1 k2 k3
    have hk : k = 7 := by omega
    subst hk
    refine ⟨ν, k1, k2, k3, fun d P => ?_⟩
    rw [qX7_keep_20]
    simp only [qX7_keep_0, qX7_keep_1, qX7_keep_2, qX7_keep_3, qX7_keep_4, qX7_keep_7, qX7_keep_10, qX7_keep_12, qX7_keep_13, qX7_keep_15, qX7_keep_16, qX7_keep_17, qX7_keep_18, qX7_keep_19, qX7_keep_21, qX7_keep_23, qX7_keep_26, qX7_keep_27, qX7_keep_30, qX7_keep_31, qX7_keep_32, qX7_keep_33, qX7_keep_34, qX7_keep_37, qX7_keep_38, qX7_keep_39, qX7_keep_40, qX7_keep_41, qX7_keep_44, qX7_keep_45, qX7_keep_47, qX7_keep_48, qX7_keep_49, qX7_keep_50, qX7_keep_51, qX7_keep_54, qX7_keep_55, qX7_keep_56, qX7_keep_57, qX7_keep_58, qX7_keep_61, qX7_keep_62, qX7_keep_64, qX7_keep_65, qX7_keep_66, qX7_keep_67, qX7_keep_68, qX7_keep_71, qX7_keep_72, qX7_keep_73, qX7_keep_74, qX7_keep_77, qX7_keep_81, qX7_keep_84, qX7_keep_85, qX7_keep_87, qX7_keep_88, qX7_keep_89, qX7_keep_92, qX7_keep_93, qX7_keep_94, qX7_keep_97, qX7_keep_98, qX7_keep_100, qX7_keep_101, qX7_keep_102, qX7_keep_105, qX7_keep_106, qX7_keep_107, qX7_keep_110, qX7_keep_111, qX7_keep_113, qX7_keep_114, qX7_keep_115, qX7_keep_118, qX7_keep_119, qX7_keep_120, qX7_keep_123, qX7_keep_124, qX7_keep_125, qX7_keep_126, qX7_keep_127, show (7 : Int32) ≤ nI 7 by decide, if_true]
  | succ j ih =>
    intro k ν hk k1 k2 k3
    have h1 : ¬ nI 7 ≤ nI k := nI_ge (by omega) (by omega)
    have h2 : vp_in (nI k) 7 := vp_in_nI (by omega) (by decide)
    have h3 : (nI k).toNatClampNeg = k := nI_clamp (by omega)
    have a1 : vp_in (nI (base + k)) 60 := vp_in_nI (by omega) (by decide)
    have b1 : (nI (base + k)).toNatClampNeg = base + k := nI_clamp (by omega)
    have a2 : vp_in (nI (base + 7 + k)) 60 := vp_in_nI (by omega) (by decide)
    have b2 : (nI (base + 7 + k)).toNatClampNeg = base + 7 + k := nI_clamp (by omega)
    have a3 : vp_in (nI (base + 14 + k)) 60 := vp_in_nI (by omega) (by decide)
    have b3 : (nI (base + 14 + k)).toNatClampNeg = base + 14 + k := nI_clamp (by omega)
    obtain ⟨ν', i1, i2, i3, i4⟩ := ih (k + 1) (mm_set ν 23 (upd (upd (upd (ν.1 23) (base + k) (μ.1 4 k)) (base + 7 + k) (μ.1 3 k)) (base + 14 + k) (μ.1 7 k))) (by omega) (fun c hc => by rw [mm_set_ne _ _ hc]; exact k1 c hc) (fun q hq => by
      rw [mm_set_same, upd_1, upd_1, upd_1, if_neg (by omega), if_neg (by omega), if_neg (by omega)]
      exact k2 q hq) (fun l hl => by
      simp only [mm_set_same, upd_1]
      by_cases e : l = k
      · subst e
        refine ⟨?_, ?_, ?_⟩
        · rw [if_neg (by omega), if_neg (by omega), if_pos rfl]
        · rw [if_neg (by omega), if_pos rfl]
        · rw [if_pos rfl]
      · obtain ⟨c1, c2, c3⟩ := k3 l (by omega)
        refine ⟨?_, ?_, ?_⟩
        · rw [if_neg (by omega), if_neg (by omega), if_neg (by omega)]; exact c1
        · rw [if_neg (by omega), if_neg (by omega), if_neg (by omega)]; exact c2
        · rw [if_neg (by omega), if_neg (by omega), if_neg (by omega)]; exact c3)
    refine ⟨ν', i1, i2, i3, fun d P => ?_⟩
    rw [← i4 d P, qX7_keep_20]
    simp only [qX7_keep_0, qX7_keep_1, qX7_keep_2, qX7_keep_3, qX7_keep_4, qX7_keep_7, qX7_keep_10, qX7_keep_12, qX7_keep_13, qX7_keep_15, qX7_keep_16, qX7_keep_17, qX7_keep_18, qX7_keep_19, qX7_keep_21, qX7_keep_23, qX7_keep_26, qX7_keep_27, qX7_keep_30, qX7_keep_31, qX7_keep_32, qX7_keep_33, qX7_keep_34, qX7_keep_37, qX7_keep_38, qX7_keep_39, qX7_keep_40, qX7_keep_41, qX7_keep_44, qX7_keep_45, qX7_keep_47, qX7_keep_48, qX7_keep_49, qX7_keep_50, qX7_keep_51, qX7_keep_54, qX7_keep_55, qX7_keep_56, qX7_keep_57, qX7_keep_58, qX7_keep_61, qX7_keep_62, qX7_keep_64, qX7_keep_65, qX7_keep_66, qX7_keep_67, qX7_keep_68, qX7_keep_71, qX7_keep_72, qX7_keep_73, qX7_keep_74, qX7_keep_77, qX7_keep_81, qX7_keep_84, qX7_keep_85, qX7_keep_87, qX7_keep_88, qX7_keep_89, qX7_keep_92, qX7_keep_93, qX7_keep_94, qX7_keep_97, qX7_keep_98, qX7_keep_100, qX7_keep_101, qX7_keep_102, qX7_keep_105, qX7_keep_106, qX7_keep_107, qX7_keep_110, qX7_keep_111, qX7_keep_113, qX7_keep_114, qX7_keep_115, qX7_keep_118, qX7_keep_119, qX7_keep_120, qX7_keep_123, qX7_keep_124, qX7_keep_125, qX7_keep_126, qX7_keep_127, h1, h2, h3, if_false, show (7 : Int32) = nI 7 from rfl, show (14 : Int32) = nI 14 from rfl, nI_add, a1, b1, a2, b2, a3, b3, k1 4 (by decide), k1 3 (by decide), k1 7 (by decide), mm_sti_set, mm_set_1, mm_set_set, Nat.reduceEqDiff, if_true, true_and, nI_1]
theorem MgoBack_loop {μ : mm_M} {base : Nat} {i : Int32} (hb : base + 24 ≤ 60) : ∀ (j k : Nat) (ν : mm_M), j + k = 7 → (∀ c, c ≠ 3 → c ≠ 4 → c ≠ 7 → ν.1 c = μ.1 c) → (∀ l, l < k → ν.1 4 l = μ.1 23 (base + l) ∧ ν.1 3 l = μ.1 23 (base + 7 + l) ∧ ν.1 7 l = μ.1 23 (base + 14 + l)) → ∃ ν' : mm_M, (∀ c, c ≠ 3 → c ≠ 4 → c ≠ 7 → ν'.1 c = μ.1 c) ∧ (∀ l, l < 7 → ν'.1 4 l = μ.1 23 (base + l) ∧ ν'.1 3 l = μ.1 23 (base + 7 + l) ∧ ν'.1 7 l = μ.1 23 (base + 14 + l)) ∧ ∀ (d : Nat) (P : mm_O), mm_at shM d 143 [] P 33 [.ref 0, .int i, .int (nI base), .int (nI k)] [] ν = mm_at shM d 143 [] P 93 [.ref 0, .int i, .int (nI base), .int (nI 7)] [] ν' := by
  intro j
  induction j with
  | zero =>
    intro k ν hk k1 k3
    have hk : k = 7 := by omega
    subst hk
    refine ⟨ν, k1, k3, fun d P => ?_⟩
    rw [qX7_goBack_33]
    simp only [qX7_goBack_0, qX7_goBack_1, qX7_goBack_2, qX7_goBack_3, qX7_goBack_4, qX7_goBack_7, qX7_goBack_10, qX7_goBack_12, qX7_goBack_13, qX7_goBack_14, qX7_goBack_17, qX7_goBack_18, qX7_goBack_19, qX7_goBack_22, qX7_goBack_25, qX7_goBack_26, qX7_goBack_28, qX7_goBack_29, qX7_goBack_30, qX7_goBack_31, qX7_goBack_32, qX7_goBack_34, qX7_goBack_36, qX7_goBack_39, qX7_goBack_40, qX7_goBack_43, qX7_goBack_44, qX7_goBack_45, qX7_goBack_48, qX7_goBack_49, qX7_goBack_50, qX7_goBack_51, qX7_goBack_52, qX7_goBack_53, qX7_goBack_54, qX7_goBack_57, qX7_goBack_58, qX7_goBack_59, qX7_goBack_62, qX7_goBack_63, qX7_goBack_65, qX7_goBack_66, qX7_goBack_67, qX7_goBack_68, qX7_goBack_69, qX7_goBack_70, qX7_goBack_71, qX7_goBack_74, qX7_goBack_75, qX7_goBack_76, qX7_goBack_79, qX7_goBack_80, qX7_goBack_82, qX7_goBack_83, qX7_goBack_84, qX7_goBack_85, qX7_goBack_86, qX7_goBack_87, qX7_goBack_90, qX7_goBack_94, qX7_goBack_95, qX7_goBack_98, qX7_goBack_99, qX7_goBack_101, qX7_goBack_102, qX7_goBack_103, qX7_goBack_106, qX7_goBack_107, qX7_goBack_108, qX7_goBack_111, qX7_goBack_112, qX7_goBack_114, qX7_goBack_115, qX7_goBack_116, qX7_goBack_119, qX7_goBack_120, qX7_goBack_121, qX7_goBack_124, qX7_goBack_125, qX7_goBack_127, qX7_goBack_128, qX7_goBack_129, qX7_goBack_132, qX7_goBack_133, show (7 : Int32) ≤ nI 7 by decide, if_true]
  | succ j ih =>
    intro k ν hk k1 k3
    have h1 : ¬ nI 7 ≤ nI k := nI_ge (by omega) (by omega)
    have h2 : vp_in (nI k) 7 := vp_in_nI (by omega) (by decide)
    have h3 : (nI k).toNatClampNeg = k := nI_clamp (by omega)
    have a1 : vp_in (nI (base + k)) 60 := vp_in_nI (by omega) (by decide)
    have b1 : (nI (base + k)).toNatClampNeg = base + k := nI_clamp (by omega)
    have a2 : vp_in (nI (base + 7 + k)) 60 := vp_in_nI (by omega) (by decide)
    have b2 : (nI (base + 7 + k)).toNatClampNeg = base + 7 + k := nI_clamp (by omega)
    have a3 : vp_in (nI (base + 14 + k)) 60 := vp_in_nI (by omega) (by decide)
    have b3 : (nI (base + 14 + k)).toNatClampNeg = base + 14 + k := nI_clamp (by omega)
    obtain ⟨ν', i1, i3, i4⟩ := ih (k + 1) (mm_set (mm_set (mm_set ν 4 (upd (ν.1 4) k (μ.1 23 (base + k)))) 3 (upd (ν.1 3) k (μ.1 23 (base + 7 + k)))) 7 (upd (ν.1 7) k (μ.1 23 (base + 14 + k)))) (by omega) (fun c c1 c2 c3 => by rw [mm_set_ne _ _ c3, mm_set_ne _ _ c1, mm_set_ne _ _ c2]; exact k1 c c1 c2 c3) (fun l hl => by
      simp only [mm_set_1, Nat.reduceEqDiff, if_true, if_false, upd_1]
      by_cases e : l = k
      · subst e
        simp
      · simp only [e, if_false]
        exact k3 l (by omega))
    refine ⟨ν', i1, i3, fun d P => ?_⟩
    have e23 := k1 23 (by decide) (by decide) (by decide)
    rw [← i4 d P, qX7_goBack_33]
    simp only [qX7_goBack_0, qX7_goBack_1, qX7_goBack_2, qX7_goBack_3, qX7_goBack_4, qX7_goBack_7, qX7_goBack_10, qX7_goBack_12, qX7_goBack_13, qX7_goBack_14, qX7_goBack_17, qX7_goBack_18, qX7_goBack_19, qX7_goBack_22, qX7_goBack_25, qX7_goBack_26, qX7_goBack_28, qX7_goBack_29, qX7_goBack_30, qX7_goBack_31, qX7_goBack_32, qX7_goBack_34, qX7_goBack_36, qX7_goBack_39, qX7_goBack_40, qX7_goBack_43, qX7_goBack_44, qX7_goBack_45, qX7_goBack_48, qX7_goBack_49, qX7_goBack_50, qX7_goBack_51, qX7_goBack_52, qX7_goBack_53, qX7_goBack_54, qX7_goBack_57, qX7_goBack_58, qX7_goBack_59, qX7_goBack_62, qX7_goBack_63, qX7_goBack_65, qX7_goBack_66, qX7_goBack_67, qX7_goBack_68, qX7_goBack_69, qX7_goBack_70, qX7_goBack_71, qX7_goBack_74, qX7_goBack_75, qX7_goBack_76, qX7_goBack_79, qX7_goBack_80, qX7_goBack_82, qX7_goBack_83, qX7_goBack_84, qX7_goBack_85, qX7_goBack_86, qX7_goBack_87, qX7_goBack_90, qX7_goBack_94, qX7_goBack_95, qX7_goBack_98, qX7_goBack_99, qX7_goBack_101, qX7_goBack_102, qX7_goBack_103, qX7_goBack_106, qX7_goBack_107, qX7_goBack_108, qX7_goBack_111, qX7_goBack_112, qX7_goBack_114, qX7_goBack_115, qX7_goBack_116, qX7_goBack_119, qX7_goBack_120, qX7_goBack_121, qX7_goBack_124, qX7_goBack_125, qX7_goBack_127, qX7_goBack_128, qX7_goBack_129, qX7_goBack_132, qX7_goBack_133, h1, h2, h3, if_false, show (7 : Int32) = nI 7 from rfl, show (14 : Int32) = nI 14 from rfl, nI_add, a1, b1, a2, b2, a3, b3, e23, mm_sti_set, mm_set_1, Nat.reduceEqDiff, if_true, true_and, nI_1]
theorem ImR_c {σ μ σ' μ' : mm_M} {n np b i : Nat} (h : ImR σ μ n np b i) (h0 : σ'.1 b = σ.1 b) (h1 : σ'.1 (b + 1) = σ.1 (b + 1)) (h2 : σ'.1 (b + 2) = σ.1 (b + 2)) (h3 : σ'.1 (b + 3) = σ.1 (b + 3)) (hk : μ'.1 24 i = μ.1 24 i) (hm : ∀ q, 30 * i ≤ q → q < 30 * i + 30 → μ'.1 23 q = μ.1 23 q) (hn : n ≤ 7) : ImR σ' μ' n np b i := by
  unfold ImR at h ⊢
  rw [h0, h1, h2, h3, hk, hm (30 * i + 22) (by omega) (by omega), hm (30 * i + 21) (by omega) (by omega), hm (30 * i + 23) (by omega) (by omega)]
  rcases h with h | ⟨g1, g2, g3, g4⟩
  · exact Or.inl h
  · refine Or.inr ⟨g1, g2, fun l hl => ?_, g4⟩
    rw [hm (30 * i + 7 + l) (by omega) (by omega), hm (30 * i + l) (by omega) (by omega), hm (30 * i + 14 + l) (by omega) (by omega)]
    exact g3 l hl
theorem s_keepOf_0 {σ : mm_M} : ∃ σ' : mm_M, (∀ k, k ≠ 33 → k ≠ 34 → k ≠ 35 → k ≠ 36 → σ'.1 k = σ.1 k) ∧ (∀ l, l < 7 → σ'.1 34 l = σ.1 14 l ∧ σ'.1 35 l = σ.1 15 l ∧ σ'.1 36 l = σ.1 18 l) ∧ (σ'.1 33 3 = σ.1 11 9 ∧ σ'.1 33 4 = σ.1 11 10 ∧ σ'.1 33 5 = σ.1 11 11 ∧ σ'.1 33 6 = 1) ∧ ∀ (d : Nat) (P : mm_O), mm_run shC (d + 2) 0 [.ref 33, .ref 11] σ P = P none σ' := by
  have f1 := fun (σ : mm_M) (d : Nat) (P : mm_O) => s_copyRow (d := d) (P := P) (σ := σ) (a := 14) (b := 34) (n := 7) rfl rfl (by decide) (by decide)
  have f2 := fun (σ : mm_M) (d : Nat) (P : mm_O) => s_copyRow (d := d) (P := P) (σ := σ) (a := 15) (b := 35) (n := 7) rfl rfl (by decide) (by decide)
  have f3 := fun (σ : mm_M) (d : Nat) (P : mm_O) => s_copyRow (d := d) (P := P) (σ := σ) (a := 18) (b := 36) (n := 7) rfl rfl (by decide) (by decide)
  refine ⟨mm_sti (mm_sti (mm_sti (mm_sti (mm_set (mm_set (mm_set σ 34 (fun i => if i < 7 then σ.1 14 i else σ.1 34 i)) 35 (fun i => if i < 7 then σ.1 15 i else σ.1 35 i)) 36 (fun i => if i < 7 then σ.1 18 i else σ.1 36 i)) 33 3 (σ.1 11 9)) 33 4 (σ.1 11 10)) 33 5 (σ.1 11 11)) 33 6 1, fun k a b c d => ?_, fun l hl => ?_, ?_, fun d P => ?_⟩
  · simp [mm_sti_set, mm_set_1, a, b, c, d]
  · simp [mm_sti_set, mm_set_1, hl]
  · simp [mm_sti_set, mm_set_1, upd_1]
  · rw [in_X0_keepOf]
    simp only [qX0_keepOf_0, qX0_keepOf_1a, qX0_keepOf_1b, qX0_keepOf_4, qX0_keepOf_5a, qX0_keepOf_5b, qX0_keepOf_8, qX0_keepOf_11, qX0_keepOf_12a, qX0_keepOf_12b, qX0_keepOf_15, qX0_keepOf_16a, qX0_keepOf_16b, qX0_keepOf_19, qX0_keepOf_22, qX0_keepOf_23a, qX0_keepOf_23b, qX0_keepOf_26, qX0_keepOf_27a, qX0_keepOf_27b, qX0_keepOf_30, qX0_keepOf_33, qX0_keepOf_34, qX0_keepOf_35a, qX0_keepOf_35b, qX0_keepOf_38a, qX0_keepOf_38b, qX0_keepOf_41, qX0_keepOf_42, qX0_keepOf_43a, qX0_keepOf_43b, qX0_keepOf_46a, qX0_keepOf_46b, qX0_keepOf_49, qX0_keepOf_50, qX0_keepOf_51a, qX0_keepOf_51b, qX0_keepOf_54a, qX0_keepOf_54b, qX0_keepOf_57, qX0_keepOf_58, qX0_keepOf_59a, qX0_keepOf_59b, qX0_keepOf_62, f1, f2, f3, mm_sti_set, mm_set_1, upd_1, Nat.reduceEqDiff, if_true, if_false, Option.toList, List.cons_append, List.nil_append, or_true, true_and]
theorem s_giveTo_0 {σ : mm_M} : ∃ σ' : mm_M, (∀ k, k ≠ 11 → k ≠ 14 → k ≠ 15 → k ≠ 18 → σ'.1 k = σ.1 k) ∧ (∀ l, l < 7 → σ'.1 14 l = σ.1 34 l ∧ σ'.1 15 l = σ.1 35 l ∧ σ'.1 18 l = σ.1 36 l) ∧ (σ'.1 11 9 = σ.1 33 3 ∧ σ'.1 11 10 = σ.1 33 4 ∧ σ'.1 11 11 = σ.1 33 5) ∧ (∀ j, j ≠ 9 → j ≠ 10 → j ≠ 11 → σ'.1 11 j = σ.1 11 j) ∧ ∀ (d : Nat) (P : mm_O), mm_run shC (d + 2) 1 [.ref 33, .ref 11] σ P = P none σ' := by
  have f1 := fun (σ : mm_M) (d : Nat) (P : mm_O) => s_copyRow (d := d) (P := P) (σ := σ) (a := 34) (b := 14) (n := 7) rfl rfl (by decide) (by decide)
  have f2 := fun (σ : mm_M) (d : Nat) (P : mm_O) => s_copyRow (d := d) (P := P) (σ := σ) (a := 35) (b := 15) (n := 7) rfl rfl (by decide) (by decide)
  have f3 := fun (σ : mm_M) (d : Nat) (P : mm_O) => s_copyRow (d := d) (P := P) (σ := σ) (a := 36) (b := 18) (n := 7) rfl rfl (by decide) (by decide)
  refine ⟨mm_sti (mm_sti (mm_sti (mm_set (mm_set (mm_set σ 14 (fun i => if i < 7 then σ.1 34 i else σ.1 14 i)) 15 (fun i => if i < 7 then σ.1 35 i else σ.1 15 i)) 18 (fun i => if i < 7 then σ.1 36 i else σ.1 18 i)) 11 9 (σ.1 33 3)) 11 10 (σ.1 33 4)) 11 11 (σ.1 33 5), fun k a b c d => ?_, fun l hl => ?_, ?_, fun j a b c => ?_, fun d P => ?_⟩
  · simp [mm_sti_set, mm_set_1, a, b, c, d]
  · simp [mm_sti_set, mm_set_1, hl]
  · simp [mm_sti_set, mm_set_1, upd_1]
  · simp [mm_sti_set, mm_set_1, upd_1, a, b, c]
  · rw [in_X0_giveTo]
    simp only [qX0_giveTo_0, qX0_giveTo_1a, qX0_giveTo_1b, qX0_giveTo_4, qX0_giveTo_5a, qX0_giveTo_5b, qX0_giveTo_8, qX0_giveTo_11, qX0_giveTo_12a, qX0_giveTo_12b, qX0_giveTo_15, qX0_giveTo_16a, qX0_giveTo_16b, qX0_giveTo_19, qX0_giveTo_22, qX0_giveTo_23a, qX0_giveTo_23b, qX0_giveTo_26, qX0_giveTo_27a, qX0_giveTo_27b, qX0_giveTo_30, qX0_giveTo_33, qX0_giveTo_34, qX0_giveTo_35a, qX0_giveTo_35b, qX0_giveTo_38a, qX0_giveTo_38b, qX0_giveTo_41, qX0_giveTo_42, qX0_giveTo_43a, qX0_giveTo_43b, qX0_giveTo_46a, qX0_giveTo_46b, qX0_giveTo_49, qX0_giveTo_50, qX0_giveTo_51a, qX0_giveTo_51b, qX0_giveTo_54a, qX0_giveTo_54b, qX0_giveTo_57, f1, f2, f3, mm_sti_set, mm_set_1, upd_1, Nat.reduceEqDiff, if_true, if_false, Option.toList, List.cons_append, List.nil_append]
theorem keep_0 : Call 71 142 [.int 0] := by
  intro σ μ h
  obtain ⟨n, np, h1, h2, h3, h4, h5, h6, h7⟩ := h
  have hn := h1.2.1.2.2
  obtain ⟨σ', c1, c2, ⟨c3, c4, c5, c6⟩, c7⟩ := s_keepOf_0 (σ := σ)
  obtain ⟨ν, m1, m2, m3, m4⟩ := Mkeep_loop (μ := μ) (base := 0) (i := 0) (by decide) 7 0 μ (by omega) (fun _ _ => rfl) (fun _ _ => rfl) (fun l hl => by omega)
  have n0 := m1 0 (by decide)
  generalize hν : mm_sti (mm_sti (mm_sti (mm_sti ν 23 21 (μ.1 0 10)) 23 22 (μ.1 0 9)) 23 23 (μ.1 0 11)) 24 0 1 = ν2
  have e1 : ∀ c, c ≠ 23 → c ≠ 24 → ν2.1 c = μ.1 c := fun c x y => by rw [← hν]; simp [mm_sti_set, mm_set_1, x, y]; exact m1 c x
  have e2 : ∀ q, q < 0 + 21 ∨ 0 + 24 ≤ q → ν2.1 23 q = ν.1 23 q := fun q x => by
    rw [← hν]
    simp only [mm_sti_set, mm_set_1, upd_1, Nat.reduceEqDiff, if_true, if_false]
    rw [if_neg (by omega), if_neg (by omega), if_neg (by omega)]
  have e3 : ν2.1 23 21 = μ.1 0 10 ∧ ν2.1 23 22 = μ.1 0 9 ∧ ν2.1 23 23 = μ.1 0 11 := by rw [← hν]; simp [mm_sti_set, mm_set_1, upd_1]
  have e4 : ν2.1 24 0 = 1 ∧ ν2.1 24 1 = μ.1 24 1 := by rw [← hν]; simp [mm_sti_set, mm_set_1, upd_1, m1]
  refine ⟨1, σ', ν2, ⟨n, np, ?_, ?_, ?_, ?_, ?_, ?_⟩, fun d P => ?_, fun d P => ?_⟩
  · unfold TwR
    rw [c1 11 (by decide) (by decide) (by decide) (by decide), c1 12 (by decide) (by decide) (by decide) (by decide), c1 13 (by decide) (by decide) (by decide) (by decide), c1 14 (by decide) (by decide) (by decide) (by decide), c1 15 (by decide) (by decide) (by decide) (by decide), c1 16 (by decide) (by decide) (by decide) (by decide), c1 17 (by decide) (by decide) (by decide) (by decide), c1 18 (by decide) (by decide) (by decide) (by decide), e1 0 (by decide) (by decide), e1 1 (by decide) (by decide), e1 2 (by decide) (by decide), e1 3 (by decide) (by decide), e1 4 (by decide) (by decide), e1 5 (by decide) (by decide), e1 6 (by decide) (by decide), e1 7 (by decide) (by decide)]
    exact h1
  · unfold TxR
    rw [c1 1 (by decide) (by decide) (by decide) (by decide), c1 2 (by decide) (by decide) (by decide) (by decide), e1 0 (by decide) (by decide), e1 8 (by decide) (by decide)]
    exact h2
  · rw [c1 1 (by decide) (by decide) (by decide) (by decide), e1 0 (by decide) (by decide)]
    exact h3
  · unfold CmR
    rw [c1 0 (by decide) (by decide) (by decide) (by decide), c1 42 (by decide) (by decide) (by decide) (by decide), e1 0 (by decide) (by decide), e1 20 (by decide) (by decide)]
    exact h4
  · unfold BkR
    rw [c1 0 (by decide) (by decide) (by decide) (by decide), c1 43 (by decide) (by decide) (by decide) (by decide), c1 44 (by decide) (by decide) (by decide) (by decide), e1 0 (by decide) (by decide), e1 21 (by decide) (by decide), e1 22 (by decide) (by decide)]
    exact h5
  · have own : ImR σ' ν2 n np 33 0 := by
      obtain ⟨q1, q2, q3, q4, q5, q6, q7⟩ := h1
      refine Or.inr ⟨c6, e4.1, fun l hl => ?_, ⟨?_, ?_⟩, ⟨?_, ?_⟩, ?_, ?_⟩
      · obtain ⟨⟨r1, r2, r3, r4, r5⟩, r6, r7, r8, r9, r10⟩ := q4 l hl
        obtain ⟨y1, y2, y3⟩ := c2 l (by omega)
        obtain ⟨z1, z2, z3⟩ := m3 l (by omega)
        show (σ'.1 34 l = ν2.1 23 (30 * 0 + 7 + l) ∧ σ'.1 35 l = ν2.1 23 (30 * 0 + l) ∧ σ'.1 36 l = ν2.1 23 (30 * 0 + 14 + l)) ∧ (∃ g, g < np ∧ σ'.1 34 l = nI g) ∧ rg (σ'.1 35 l) 1 99 ∧ rg (σ'.1 36 l) 0 9
        rw [e2 (30 * 0 + 7 + l) (by omega), e2 (30 * 0 + l) (by omega), e2 (30 * 0 + 14 + l) (by omega)]
        rw [show 30 * 0 = 0 from rfl, z1, z2, z3, y1, y2, y3]
        exact ⟨⟨r1, r2, r5⟩, r6, r7, r10⟩
      · rw [c3]; exact q5.1.trans e3.2.1.symm
      · rw [c3]; exact q5.2
      · rw [c4]; exact q6.1.trans e3.1.symm
      · rw [c4]; exact q6.2
      · rw [c5]; exact q7.1.trans e3.2.2.symm
      · rw [c5]; exact q7.2
    have oth : ImR σ' ν2 n np 37 1 := ImR_c h7 (c1 _ (by decide) (by decide) (by decide) (by decide)) (c1 _ (by decide) (by decide) (by decide) (by decide)) (c1 _ (by decide) (by decide) (by decide) (by decide)) (c1 _ (by decide) (by decide) (by decide) (by decide)) e4.2 (fun q x y => by rw [e2 q (by omega)]; exact m2 q (by omega)) hn
    exact ⟨own, oth⟩
  · rw [in_X6_keep]
    simp only [qX6_keep_0, qX6_keep_1, qX6_keep_4, qX6_keep_5, qX6_keep_6, qX6_keep_9, qX6_keep_11, qX6_keep_12, qX6_keep_13, qX6_keep_14, qX6_keep_17, qX6_keep_18, qX6_keep_21a, qX6_keep_21b, qX6_keep_24, qX6_keep_25, show ¬ (0 : Int32) < 0 by decide, show (0 : Int32) ≤ 1 by decide, if_true, if_false]
    rw [in_X6_imageOf]
    simp only [qX6_imageOf_0, qX6_imageOf_1, qX6_imageOf_4, qX6_imageOf_5, qX6_imageOf_8, qX6_imageOf_11, qX6_imageOf_12, qX6_imageOf_15, qX6_keep_0, qX6_keep_1, qX6_keep_4, qX6_keep_5, qX6_keep_6, qX6_keep_9, qX6_keep_11, qX6_keep_12, qX6_keep_13, qX6_keep_14, qX6_keep_17, qX6_keep_18, qX6_keep_21a, qX6_keep_21b, qX6_keep_24, qX6_keep_25, c7, Option.toList, List.cons_append, List.nil_append, if_true, if_false]
  · rw [in_X7_keep]
    have hi : (0 : Int64) ≤ (0 : Int32).toInt64 ∧ (0 : Int32).toInt64 ≤ 1 := by decide
    simp only [qX7_keep_0, qX7_keep_1, qX7_keep_2, qX7_keep_3, qX7_keep_4, qX7_keep_7, qX7_keep_10, qX7_keep_12, qX7_keep_13, qX7_keep_15, qX7_keep_16, qX7_keep_17, qX7_keep_18, qX7_keep_19, qX7_keep_21, qX7_keep_23, qX7_keep_26, qX7_keep_27, qX7_keep_30, qX7_keep_31, qX7_keep_32, qX7_keep_33, qX7_keep_34, qX7_keep_37, qX7_keep_38, qX7_keep_39, qX7_keep_40, qX7_keep_41, qX7_keep_44, qX7_keep_45, qX7_keep_47, qX7_keep_48, qX7_keep_49, qX7_keep_50, qX7_keep_51, qX7_keep_54, qX7_keep_55, qX7_keep_56, qX7_keep_57, qX7_keep_58, qX7_keep_61, qX7_keep_62, qX7_keep_64, qX7_keep_65, qX7_keep_66, qX7_keep_67, qX7_keep_68, qX7_keep_71, qX7_keep_72, qX7_keep_73, qX7_keep_74, qX7_keep_77, qX7_keep_81, qX7_keep_84, qX7_keep_85, qX7_keep_87, qX7_keep_88, qX7_keep_89, qX7_keep_92, qX7_keep_93, qX7_keep_94, qX7_keep_97, qX7_keep_98, qX7_keep_100, qX7_keep_101, qX7_keep_102, qX7_keep_105, qX7_keep_106, qX7_keep_107, qX7_keep_110, qX7_keep_111, qX7_keep_113, qX7_keep_114, qX7_keep_115, qX7_keep_118, qX7_keep_119, qX7_keep_120, qX7_keep_123, qX7_keep_124, qX7_keep_125, qX7_keep_126, qX7_keep_127, s_Min, hi, and_self, if_true, show ¬ (1 : Int32) = 0 by decide, if_false, Option.toList, List.cons_append, List.nil_append]
    have e := m4 (d + 39) P
    rw [show (30 : Int32) * 0 = nI 0 from rfl, show (0 : Int32) = nI 0 from rfl]
    refine Eq.trans e ?_
    simp only [qX7_keep_0, qX7_keep_1, qX7_keep_2, qX7_keep_3, qX7_keep_4, qX7_keep_7, qX7_keep_10, qX7_keep_12, qX7_keep_13, qX7_keep_15, qX7_keep_16, qX7_keep_17, qX7_keep_18, qX7_keep_19, qX7_keep_21, qX7_keep_23, qX7_keep_26, qX7_keep_27, qX7_keep_30, qX7_keep_31, qX7_keep_32, qX7_keep_33, qX7_keep_34, qX7_keep_37, qX7_keep_38, qX7_keep_39, qX7_keep_40, qX7_keep_41, qX7_keep_44, qX7_keep_45, qX7_keep_47, qX7_keep_48, qX7_keep_49, qX7_keep_50, qX7_keep_51, qX7_keep_54, qX7_keep_55, qX7_keep_56, qX7_keep_57, qX7_keep_58, qX7_keep_61, qX7_keep_62, qX7_keep_64, qX7_keep_65, qX7_keep_66, qX7_keep_67, qX7_keep_68, qX7_keep_71, qX7_keep_72, qX7_keep_73, qX7_keep_74, qX7_keep_77, qX7_keep_80, qX7_keep_81, qX7_keep_84, qX7_keep_85, qX7_keep_87, qX7_keep_88, qX7_keep_89, qX7_keep_92, qX7_keep_93, qX7_keep_94, qX7_keep_97, qX7_keep_98, qX7_keep_100, qX7_keep_101, qX7_keep_102, qX7_keep_105, qX7_keep_106, qX7_keep_107, qX7_keep_110, qX7_keep_111, qX7_keep_113, qX7_keep_114, qX7_keep_115, qX7_keep_118, qX7_keep_119, qX7_keep_120, qX7_keep_123, qX7_keep_124, qX7_keep_125, qX7_keep_126, qX7_keep_127, show nI 0 + 21 = nI 21 from rfl, show nI 0 + 22 = nI 22 from rfl, show nI 0 + 23 = nI 23 from rfl, show vp_in (nI 21) 60 from vp_in_nI (by decide) (by decide), show vp_in (nI 22) 60 from vp_in_nI (by decide) (by decide), show vp_in (nI 23) 60 from vp_in_nI (by decide) (by decide), show (nI 21).toNatClampNeg = 21 from nI_clamp (by decide), show (nI 22).toNatClampNeg = 22 from nI_clamp (by decide), show (nI 23).toNatClampNeg = 23 from nI_clamp (by decide), show vp_in (0 : Int32) 2 from vp_in_nI (n := 0) (by decide) (by decide), show (0 : Int32).toNatClampNeg = 0 from rfl, show vp_nar .boolean 1 = 1 from rfl, true_and, mm_sti_set, mm_set_1, Nat.reduceEqDiff, if_false, n0]
    rw [← hν]
    simp only [mm_sti_set, mm_set_1, Nat.reduceEqDiff, if_false]
theorem s_keepOf_1 {σ : mm_M} : ∃ σ' : mm_M, (∀ k, k ≠ 37 → k ≠ 38 → k ≠ 39 → k ≠ 40 → σ'.1 k = σ.1 k) ∧ (∀ l, l < 7 → σ'.1 38 l = σ.1 14 l ∧ σ'.1 39 l = σ.1 15 l ∧ σ'.1 40 l = σ.1 18 l) ∧ (σ'.1 37 3 = σ.1 11 9 ∧ σ'.1 37 4 = σ.1 11 10 ∧ σ'.1 37 5 = σ.1 11 11 ∧ σ'.1 37 6 = 1) ∧ ∀ (d : Nat) (P : mm_O), mm_run shC (d + 2) 0 [.ref 37, .ref 11] σ P = P none σ' := by
  have f1 := fun (σ : mm_M) (d : Nat) (P : mm_O) => s_copyRow (d := d) (P := P) (σ := σ) (a := 14) (b := 38) (n := 7) rfl rfl (by decide) (by decide)
  have f2 := fun (σ : mm_M) (d : Nat) (P : mm_O) => s_copyRow (d := d) (P := P) (σ := σ) (a := 15) (b := 39) (n := 7) rfl rfl (by decide) (by decide)
  have f3 := fun (σ : mm_M) (d : Nat) (P : mm_O) => s_copyRow (d := d) (P := P) (σ := σ) (a := 18) (b := 40) (n := 7) rfl rfl (by decide) (by decide)
  refine ⟨mm_sti (mm_sti (mm_sti (mm_sti (mm_set (mm_set (mm_set σ 38 (fun i => if i < 7 then σ.1 14 i else σ.1 38 i)) 39 (fun i => if i < 7 then σ.1 15 i else σ.1 39 i)) 40 (fun i => if i < 7 then σ.1 18 i else σ.1 40 i)) 37 3 (σ.1 11 9)) 37 4 (σ.1 11 10)) 37 5 (σ.1 11 11)) 37 6 1, fun k a b c d => ?_, fun l hl => ?_, ?_, fun d P => ?_⟩
  · simp [mm_sti_set, mm_set_1, a, b, c, d]
  · simp [mm_sti_set, mm_set_1, hl]
  · simp [mm_sti_set, mm_set_1, upd_1]
  · rw [in_X0_keepOf]
    simp only [qX0_keepOf_0, qX0_keepOf_1a, qX0_keepOf_1b, qX0_keepOf_4, qX0_keepOf_5a, qX0_keepOf_5b, qX0_keepOf_8, qX0_keepOf_11, qX0_keepOf_12a, qX0_keepOf_12b, qX0_keepOf_15, qX0_keepOf_16a, qX0_keepOf_16b, qX0_keepOf_19, qX0_keepOf_22, qX0_keepOf_23a, qX0_keepOf_23b, qX0_keepOf_26, qX0_keepOf_27a, qX0_keepOf_27b, qX0_keepOf_30, qX0_keepOf_33, qX0_keepOf_34, qX0_keepOf_35a, qX0_keepOf_35b, qX0_keepOf_38a, qX0_keepOf_38b, qX0_keepOf_41, qX0_keepOf_42, qX0_keepOf_43a, qX0_keepOf_43b, qX0_keepOf_46a, qX0_keepOf_46b, qX0_keepOf_49, qX0_keepOf_50, qX0_keepOf_51a, qX0_keepOf_51b, qX0_keepOf_54a, qX0_keepOf_54b, qX0_keepOf_57, qX0_keepOf_58, qX0_keepOf_59a, qX0_keepOf_59b, qX0_keepOf_62, f1, f2, f3, mm_sti_set, mm_set_1, upd_1, Nat.reduceEqDiff, if_true, if_false, Option.toList, List.cons_append, List.nil_append, or_true, true_and]
theorem s_giveTo_1 {σ : mm_M} : ∃ σ' : mm_M, (∀ k, k ≠ 11 → k ≠ 14 → k ≠ 15 → k ≠ 18 → σ'.1 k = σ.1 k) ∧ (∀ l, l < 7 → σ'.1 14 l = σ.1 38 l ∧ σ'.1 15 l = σ.1 39 l ∧ σ'.1 18 l = σ.1 40 l) ∧ (σ'.1 11 9 = σ.1 37 3 ∧ σ'.1 11 10 = σ.1 37 4 ∧ σ'.1 11 11 = σ.1 37 5) ∧ (∀ j, j ≠ 9 → j ≠ 10 → j ≠ 11 → σ'.1 11 j = σ.1 11 j) ∧ ∀ (d : Nat) (P : mm_O), mm_run shC (d + 2) 1 [.ref 37, .ref 11] σ P = P none σ' := by
  have f1 := fun (σ : mm_M) (d : Nat) (P : mm_O) => s_copyRow (d := d) (P := P) (σ := σ) (a := 38) (b := 14) (n := 7) rfl rfl (by decide) (by decide)
  have f2 := fun (σ : mm_M) (d : Nat) (P : mm_O) => s_copyRow (d := d) (P := P) (σ := σ) (a := 39) (b := 15) (n := 7) rfl rfl (by decide) (by decide)
  have f3 := fun (σ : mm_M) (d : Nat) (P : mm_O) => s_copyRow (d := d) (P := P) (σ := σ) (a := 40) (b := 18) (n := 7) rfl rfl (by decide) (by decide)
  refine ⟨mm_sti (mm_sti (mm_sti (mm_set (mm_set (mm_set σ 14 (fun i => if i < 7 then σ.1 38 i else σ.1 14 i)) 15 (fun i => if i < 7 then σ.1 39 i else σ.1 15 i)) 18 (fun i => if i < 7 then σ.1 40 i else σ.1 18 i)) 11 9 (σ.1 37 3)) 11 10 (σ.1 37 4)) 11 11 (σ.1 37 5), fun k a b c d => ?_, fun l hl => ?_, ?_, fun j a b c => ?_, fun d P => ?_⟩
  · simp [mm_sti_set, mm_set_1, a, b, c, d]
  · simp [mm_sti_set, mm_set_1, hl]
  · simp [mm_sti_set, mm_set_1, upd_1]
  · simp [mm_sti_set, mm_set_1, upd_1, a, b, c]
  · rw [in_X0_giveTo]
    simp only [qX0_giveTo_0, qX0_giveTo_1a, qX0_giveTo_1b, qX0_giveTo_4, qX0_giveTo_5a, qX0_giveTo_5b, qX0_giveTo_8, qX0_giveTo_11, qX0_giveTo_12a, qX0_giveTo_12b, qX0_giveTo_15, qX0_giveTo_16a, qX0_giveTo_16b, qX0_giveTo_19, qX0_giveTo_22, qX0_giveTo_23a, qX0_giveTo_23b, qX0_giveTo_26, qX0_giveTo_27a, qX0_giveTo_27b, qX0_giveTo_30, qX0_giveTo_33, qX0_giveTo_34, qX0_giveTo_35a, qX0_giveTo_35b, qX0_giveTo_38a, qX0_giveTo_38b, qX0_giveTo_41, qX0_giveTo_42, qX0_giveTo_43a, qX0_giveTo_43b, qX0_giveTo_46a, qX0_giveTo_46b, qX0_giveTo_49, qX0_giveTo_50, qX0_giveTo_51a, qX0_giveTo_51b, qX0_giveTo_54a, qX0_giveTo_54b, qX0_giveTo_57, f1, f2, f3, mm_sti_set, mm_set_1, upd_1, Nat.reduceEqDiff, if_true, if_false, Option.toList, List.cons_append, List.nil_append]
theorem keep_1 : Call 71 142 [.int 1] := by
  intro σ μ h
  obtain ⟨n, np, h1, h2, h3, h4, h5, h6, h7⟩ := h
  have hn := h1.2.1.2.2
  obtain ⟨σ', c1, c2, ⟨c3, c4, c5, c6⟩, c7⟩ := s_keepOf_1 (σ := σ)
  obtain ⟨ν, m1, m2, m3, m4⟩ := Mkeep_loop (μ := μ) (base := 30) (i := 1) (by decide) 7 0 μ (by omega) (fun _ _ => rfl) (fun _ _ => rfl) (fun l hl => by omega)
  have n0 := m1 0 (by decide)
  generalize hν : mm_sti (mm_sti (mm_sti (mm_sti ν 23 51 (μ.1 0 10)) 23 52 (μ.1 0 9)) 23 53 (μ.1 0 11)) 24 1 1 = ν2
  have e1 : ∀ c, c ≠ 23 → c ≠ 24 → ν2.1 c = μ.1 c := fun c x y => by rw [← hν]; simp [mm_sti_set, mm_set_1, x, y]; exact m1 c x
  have e2 : ∀ q, q < 30 + 21 ∨ 30 + 24 ≤ q → ν2.1 23 q = ν.1 23 q := fun q x => by
    rw [← hν]
    simp only [mm_sti_set, mm_set_1, upd_1, Nat.reduceEqDiff, if_true, if_false]
    rw [if_neg (by omega), if_neg (by omega), if_neg (by omega)]
  have e3 : ν2.1 23 51 = μ.1 0 10 ∧ ν2.1 23 52 = μ.1 0 9 ∧ ν2.1 23 53 = μ.1 0 11 := by rw [← hν]; simp [mm_sti_set, mm_set_1, upd_1]
  have e4 : ν2.1 24 1 = 1 ∧ ν2.1 24 0 = μ.1 24 0 := by rw [← hν]; simp [mm_sti_set, mm_set_1, upd_1, m1]
  refine ⟨1, σ', ν2, ⟨n, np, ?_, ?_, ?_, ?_, ?_, ?_⟩, fun d P => ?_, fun d P => ?_⟩
  · unfold TwR
    rw [c1 11 (by decide) (by decide) (by decide) (by decide), c1 12 (by decide) (by decide) (by decide) (by decide), c1 13 (by decide) (by decide) (by decide) (by decide), c1 14 (by decide) (by decide) (by decide) (by decide), c1 15 (by decide) (by decide) (by decide) (by decide), c1 16 (by decide) (by decide) (by decide) (by decide), c1 17 (by decide) (by decide) (by decide) (by decide), c1 18 (by decide) (by decide) (by decide) (by decide), e1 0 (by decide) (by decide), e1 1 (by decide) (by decide), e1 2 (by decide) (by decide), e1 3 (by decide) (by decide), e1 4 (by decide) (by decide), e1 5 (by decide) (by decide), e1 6 (by decide) (by decide), e1 7 (by decide) (by decide)]
    exact h1
  · unfold TxR
    rw [c1 1 (by decide) (by decide) (by decide) (by decide), c1 2 (by decide) (by decide) (by decide) (by decide), e1 0 (by decide) (by decide), e1 8 (by decide) (by decide)]
    exact h2
  · rw [c1 1 (by decide) (by decide) (by decide) (by decide), e1 0 (by decide) (by decide)]
    exact h3
  · unfold CmR
    rw [c1 0 (by decide) (by decide) (by decide) (by decide), c1 42 (by decide) (by decide) (by decide) (by decide), e1 0 (by decide) (by decide), e1 20 (by decide) (by decide)]
    exact h4
  · unfold BkR
    rw [c1 0 (by decide) (by decide) (by decide) (by decide), c1 43 (by decide) (by decide) (by decide) (by decide), c1 44 (by decide) (by decide) (by decide) (by decide), e1 0 (by decide) (by decide), e1 21 (by decide) (by decide), e1 22 (by decide) (by decide)]
    exact h5
  · have own : ImR σ' ν2 n np 37 1 := by
      obtain ⟨q1, q2, q3, q4, q5, q6, q7⟩ := h1
      refine Or.inr ⟨c6, e4.1, fun l hl => ?_, ⟨?_, ?_⟩, ⟨?_, ?_⟩, ?_, ?_⟩
      · obtain ⟨⟨r1, r2, r3, r4, r5⟩, r6, r7, r8, r9, r10⟩ := q4 l hl
        obtain ⟨y1, y2, y3⟩ := c2 l (by omega)
        obtain ⟨z1, z2, z3⟩ := m3 l (by omega)
        show (σ'.1 38 l = ν2.1 23 (30 * 1 + 7 + l) ∧ σ'.1 39 l = ν2.1 23 (30 * 1 + l) ∧ σ'.1 40 l = ν2.1 23 (30 * 1 + 14 + l)) ∧ (∃ g, g < np ∧ σ'.1 38 l = nI g) ∧ rg (σ'.1 39 l) 1 99 ∧ rg (σ'.1 40 l) 0 9
        rw [e2 (30 * 1 + 7 + l) (by omega), e2 (30 * 1 + l) (by omega), e2 (30 * 1 + 14 + l) (by omega)]
        rw [show 30 * 1 = 30 from rfl, z1, z2, z3, y1, y2, y3]
        exact ⟨⟨r1, r2, r5⟩, r6, r7, r10⟩
      · rw [c3]; exact q5.1.trans e3.2.1.symm
      · rw [c3]; exact q5.2
      · rw [c4]; exact q6.1.trans e3.1.symm
      · rw [c4]; exact q6.2
      · rw [c5]; exact q7.1.trans e3.2.2.symm
      · rw [c5]; exact q7.2
    have oth : ImR σ' ν2 n np 33 0 := ImR_c h6 (c1 _ (by decide) (by decide) (by decide) (by decide)) (c1 _ (by decide) (by decide) (by decide) (by decide)) (c1 _ (by decide) (by decide) (by decide) (by decide)) (c1 _ (by decide) (by decide) (by decide) (by decide)) e4.2 (fun q x y => by rw [e2 q (by omega)]; exact m2 q (by omega)) hn
    exact ⟨oth, own⟩
  · rw [in_X6_keep]
    simp only [qX6_keep_0, qX6_keep_1, qX6_keep_4, qX6_keep_5, qX6_keep_6, qX6_keep_9, qX6_keep_11, qX6_keep_12, qX6_keep_13, qX6_keep_14, qX6_keep_17, qX6_keep_18, qX6_keep_21a, qX6_keep_21b, qX6_keep_24, qX6_keep_25, show ¬ (1 : Int32) < 0 by decide, show (1 : Int32) ≤ 1 by decide, if_true, if_false]
    rw [in_X6_imageOf]
    simp only [qX6_imageOf_0, qX6_imageOf_1, qX6_imageOf_4, qX6_imageOf_5, qX6_imageOf_8, qX6_imageOf_11, qX6_imageOf_12, qX6_imageOf_15, qX6_keep_0, qX6_keep_1, qX6_keep_4, qX6_keep_5, qX6_keep_6, qX6_keep_9, qX6_keep_11, qX6_keep_12, qX6_keep_13, qX6_keep_14, qX6_keep_17, qX6_keep_18, qX6_keep_21a, qX6_keep_21b, qX6_keep_24, qX6_keep_25, c7, Option.toList, List.cons_append, List.nil_append, show ¬ (1 : Int32) = 0 by decide, if_true, if_false]
  · rw [in_X7_keep]
    have hi : (0 : Int64) ≤ (1 : Int32).toInt64 ∧ (1 : Int32).toInt64 ≤ 1 := by decide
    simp only [qX7_keep_0, qX7_keep_1, qX7_keep_2, qX7_keep_3, qX7_keep_4, qX7_keep_7, qX7_keep_10, qX7_keep_12, qX7_keep_13, qX7_keep_15, qX7_keep_16, qX7_keep_17, qX7_keep_18, qX7_keep_19, qX7_keep_21, qX7_keep_23, qX7_keep_26, qX7_keep_27, qX7_keep_30, qX7_keep_31, qX7_keep_32, qX7_keep_33, qX7_keep_34, qX7_keep_37, qX7_keep_38, qX7_keep_39, qX7_keep_40, qX7_keep_41, qX7_keep_44, qX7_keep_45, qX7_keep_47, qX7_keep_48, qX7_keep_49, qX7_keep_50, qX7_keep_51, qX7_keep_54, qX7_keep_55, qX7_keep_56, qX7_keep_57, qX7_keep_58, qX7_keep_61, qX7_keep_62, qX7_keep_64, qX7_keep_65, qX7_keep_66, qX7_keep_67, qX7_keep_68, qX7_keep_71, qX7_keep_72, qX7_keep_73, qX7_keep_74, qX7_keep_77, qX7_keep_81, qX7_keep_84, qX7_keep_85, qX7_keep_87, qX7_keep_88, qX7_keep_89, qX7_keep_92, qX7_keep_93, qX7_keep_94, qX7_keep_97, qX7_keep_98, qX7_keep_100, qX7_keep_101, qX7_keep_102, qX7_keep_105, qX7_keep_106, qX7_keep_107, qX7_keep_110, qX7_keep_111, qX7_keep_113, qX7_keep_114, qX7_keep_115, qX7_keep_118, qX7_keep_119, qX7_keep_120, qX7_keep_123, qX7_keep_124, qX7_keep_125, qX7_keep_126, qX7_keep_127, s_Min, hi, and_self, if_true, show ¬ (1 : Int32) = 0 by decide, if_false, Option.toList, List.cons_append, List.nil_append]
    have e := m4 (d + 39) P
    rw [show (30 : Int32) * 1 = nI 30 from rfl, show (0 : Int32) = nI 0 from rfl]
    refine Eq.trans e ?_
    simp only [qX7_keep_0, qX7_keep_1, qX7_keep_2, qX7_keep_3, qX7_keep_4, qX7_keep_7, qX7_keep_10, qX7_keep_12, qX7_keep_13, qX7_keep_15, qX7_keep_16, qX7_keep_17, qX7_keep_18, qX7_keep_19, qX7_keep_21, qX7_keep_23, qX7_keep_26, qX7_keep_27, qX7_keep_30, qX7_keep_31, qX7_keep_32, qX7_keep_33, qX7_keep_34, qX7_keep_37, qX7_keep_38, qX7_keep_39, qX7_keep_40, qX7_keep_41, qX7_keep_44, qX7_keep_45, qX7_keep_47, qX7_keep_48, qX7_keep_49, qX7_keep_50, qX7_keep_51, qX7_keep_54, qX7_keep_55, qX7_keep_56, qX7_keep_57, qX7_keep_58, qX7_keep_61, qX7_keep_62, qX7_keep_64, qX7_keep_65, qX7_keep_66, qX7_keep_67, qX7_keep_68, qX7_keep_71, qX7_keep_72, qX7_keep_73, qX7_keep_74, qX7_keep_77, qX7_keep_80, qX7_keep_81, qX7_keep_84, qX7_keep_85, qX7_keep_87, qX7_keep_88, qX7_keep_89, qX7_keep_92, qX7_keep_93, qX7_keep_94, qX7_keep_97, qX7_keep_98, qX7_keep_100, qX7_keep_101, qX7_keep_102, qX7_keep_105, qX7_keep_106, qX7_keep_107, qX7_keep_110, qX7_keep_111, qX7_keep_113, qX7_keep_114, qX7_keep_115, qX7_keep_118, qX7_keep_119, qX7_keep_120, qX7_keep_123, qX7_keep_124, qX7_keep_125, qX7_keep_126, qX7_keep_127, show nI 30 + 21 = nI 51 from rfl, show nI 30 + 22 = nI 52 from rfl, show nI 30 + 23 = nI 53 from rfl, show vp_in (nI 51) 60 from vp_in_nI (by decide) (by decide), show vp_in (nI 52) 60 from vp_in_nI (by decide) (by decide), show vp_in (nI 53) 60 from vp_in_nI (by decide) (by decide), show (nI 51).toNatClampNeg = 51 from nI_clamp (by decide), show (nI 52).toNatClampNeg = 52 from nI_clamp (by decide), show (nI 53).toNatClampNeg = 53 from nI_clamp (by decide), show vp_in (1 : Int32) 2 from vp_in_nI (n := 1) (by decide) (by decide), show (1 : Int32).toNatClampNeg = 1 from rfl, show vp_nar .boolean 1 = 1 from rfl, true_and, mm_sti_set, mm_set_1, Nat.reduceEqDiff, if_false, n0]
    rw [← hν]
    simp only [mm_sti_set, mm_set_1, Nat.reduceEqDiff, if_false]
theorem goBack_0 : Call 72 143 [.int 0] := by
  intro σ μ h
  have hI := h
  obtain ⟨n, np, h1, h2, h3, h4, h5, h6, h7⟩ := h
  have hn := h1.2.1.2.2
  have clsS : ∀ (d : Nat) (P : mm_O), mm_run shC (d + 40) 72 [.ref 0, .int 0] σ P = if σ.1 33 6 = 0 then P (some (.int (-1000000003))) σ else mm_run shC (d + 39) 1 [.ref 33, .ref 11] σ (fun v σ => mm_at shC (d + 39) 72 [] P 38 [.ref 0, .int 0] (v.toList ++ []) σ) := fun d P => by
    rw [in_X6_goBack]
    simp only [qX6_goBack_0, qX6_goBack_1, qX6_goBack_4, qX6_goBack_5, qX6_goBack_6, qX6_goBack_9, qX6_goBack_11, qX6_goBack_12, qX6_goBack_13, qX6_goBack_14, qX6_goBack_17a, qX6_goBack_17b, qX6_goBack_20, qX6_goBack_23, qX6_goBack_25, qX6_goBack_26, qX6_goBack_27, qX6_goBack_28, qX6_goBack_31, qX6_goBack_32, qX6_goBack_35a, qX6_goBack_35b, qX6_goBack_39, show ¬ (0 : Int32) < 0 by decide, show (0 : Int32) ≤ 1 by decide, if_true, if_false]
    rw [in_X6_imageOf]
    simp only [qX6_imageOf_0, qX6_imageOf_1, qX6_imageOf_4, qX6_imageOf_5, qX6_imageOf_8, qX6_imageOf_11, qX6_imageOf_12, qX6_imageOf_15, qX6_goBack_0, qX6_goBack_1, qX6_goBack_4, qX6_goBack_5, qX6_goBack_6, qX6_goBack_9, qX6_goBack_11, qX6_goBack_12, qX6_goBack_13, qX6_goBack_14, qX6_goBack_17a, qX6_goBack_17b, qX6_goBack_20, qX6_goBack_23, qX6_goBack_25, qX6_goBack_26, qX6_goBack_27, qX6_goBack_28, qX6_goBack_31, qX6_goBack_32, qX6_goBack_35a, qX6_goBack_35b, qX6_goBack_39, Option.toList, List.cons_append, List.nil_append, if_true, if_false]
    by_cases e : σ.1 33 6 = 0
    · simp only [e, if_true]
    · simp only [e, if_false]
      rw [in_X6_imageOf]
      simp only [qX6_imageOf_0, qX6_imageOf_1, qX6_imageOf_4, qX6_imageOf_5, qX6_imageOf_8, qX6_imageOf_11, qX6_imageOf_12, qX6_imageOf_15, qX6_goBack_0, qX6_goBack_1, qX6_goBack_4, qX6_goBack_5, qX6_goBack_6, qX6_goBack_9, qX6_goBack_11, qX6_goBack_12, qX6_goBack_13, qX6_goBack_14, qX6_goBack_17a, qX6_goBack_17b, qX6_goBack_20, qX6_goBack_23, qX6_goBack_25, qX6_goBack_26, qX6_goBack_27, qX6_goBack_28, qX6_goBack_31, qX6_goBack_32, qX6_goBack_35a, qX6_goBack_35b, qX6_goBack_39, Option.toList, List.cons_append, List.nil_append, if_true, if_false]
  have hi : (0 : Int64) ≤ (0 : Int32).toInt64 ∧ (0 : Int32).toInt64 ≤ 1 := by decide
  have mdlS : ∀ (d : Nat) (P : mm_O), mm_run shM (d + 40) 143 [.ref 0, .int 0] μ P = if μ.1 24 0 = 0 then P (some (.int (-1000000003))) μ else mm_at shM (d + 39) 143 [] P 33 [.ref 0, .int 0, .int (nI 0), .int (nI 0)] [] μ := fun d P => by
    rw [in_X7_goBack]
    simp only [qX7_goBack_0, qX7_goBack_1, qX7_goBack_2, qX7_goBack_3, qX7_goBack_4, qX7_goBack_7, qX7_goBack_10, qX7_goBack_12, qX7_goBack_13, qX7_goBack_14, qX7_goBack_17, qX7_goBack_18, qX7_goBack_19, qX7_goBack_22, qX7_goBack_25, qX7_goBack_26, qX7_goBack_28, qX7_goBack_29, qX7_goBack_30, qX7_goBack_31, qX7_goBack_32, qX7_goBack_34, qX7_goBack_36, qX7_goBack_39, qX7_goBack_40, qX7_goBack_43, qX7_goBack_44, qX7_goBack_45, qX7_goBack_48, qX7_goBack_49, qX7_goBack_50, qX7_goBack_51, qX7_goBack_52, qX7_goBack_53, qX7_goBack_54, qX7_goBack_57, qX7_goBack_58, qX7_goBack_59, qX7_goBack_62, qX7_goBack_63, qX7_goBack_65, qX7_goBack_66, qX7_goBack_67, qX7_goBack_68, qX7_goBack_69, qX7_goBack_70, qX7_goBack_71, qX7_goBack_74, qX7_goBack_75, qX7_goBack_76, qX7_goBack_79, qX7_goBack_80, qX7_goBack_82, qX7_goBack_83, qX7_goBack_84, qX7_goBack_85, qX7_goBack_86, qX7_goBack_87, qX7_goBack_90, qX7_goBack_93, qX7_goBack_94, qX7_goBack_95, qX7_goBack_98, qX7_goBack_99, qX7_goBack_101, qX7_goBack_102, qX7_goBack_103, qX7_goBack_106, qX7_goBack_107, qX7_goBack_108, qX7_goBack_111, qX7_goBack_112, qX7_goBack_114, qX7_goBack_115, qX7_goBack_116, qX7_goBack_119, qX7_goBack_120, qX7_goBack_121, qX7_goBack_124, qX7_goBack_125, qX7_goBack_127, qX7_goBack_128, qX7_goBack_129, qX7_goBack_132, qX7_goBack_133, s_Min, hi, and_self, if_true, show ¬ (1 : Int32) = 0 by decide, if_false, Option.toList, List.cons_append, List.nil_append, show vp_in (0 : Int32) 2 from vp_in_nI (n := 0) (by decide) (by decide), show (0 : Int32).toNatClampNeg = 0 from rfl, true_and]
    rfl
  have hy : (σ.1 33 6 = 0 ∧ μ.1 24 0 = 0) ∨ _ := h6
  rcases hy with ⟨z1, z2⟩ | ⟨z1, z2, z3, z4, z5, z6⟩
  · refine ⟨-1000000003, σ, μ, hI, fun d P => ?_, fun d P => ?_⟩
    · rw [clsS, if_pos z1]
    · rw [mdlS, if_pos z2]
  · obtain ⟨σ', c1, c2, ⟨c3, c4, c5⟩, c6, c7⟩ := s_giveTo_0 (σ := σ)
    obtain ⟨ν, m1, m3, m4⟩ := MgoBack_loop (μ := μ) (base := 0) (i := 0) (by decide) 7 0 μ (by omega) (fun _ _ _ _ => rfl) (fun l hl => by omega)
    have n0 := m1 0 (by decide) (by decide) (by decide)
    have n23 := m1 23 (by decide) (by decide) (by decide)
    generalize hν : mm_sti (mm_sti (mm_sti ν 0 10 (μ.1 23 21)) 0 9 (μ.1 23 22)) 0 11 (μ.1 23 23) = ν2
    have e1 : ∀ c, c ≠ 0 → c ≠ 3 → c ≠ 4 → c ≠ 7 → ν2.1 c = μ.1 c := fun c w x y z => by rw [← hν]; simp [mm_sti_set, mm_set_1, w]; exact m1 c x y z
    have e2 : ν2.1 3 = ν.1 3 ∧ ν2.1 4 = ν.1 4 ∧ ν2.1 7 = ν.1 7 := by rw [← hν]; simp [mm_sti_set, mm_set_1]
    have e3 : ν2.1 0 10 = μ.1 23 21 ∧ ν2.1 0 9 = μ.1 23 22 ∧ ν2.1 0 11 = μ.1 23 23 := by rw [← hν]; simp [mm_sti_set, mm_set_1, upd_1]
    have e4 : ∀ q, q ≠ 9 → q ≠ 10 → q ≠ 11 → ν2.1 0 q = μ.1 0 q := fun q x y z => by rw [← hν]; simp [mm_sti_set, mm_set_1, upd_1, x, y, z, n0]
    have hTw : TwR σ' ν2 n np := by
      obtain ⟨q1, q2, q3, q4, q5, q6, q7⟩ := h1
      unfold TwR
      rw [c6 7 (by decide) (by decide) (by decide), c6 8 (by decide) (by decide) (by decide), c1 12 (by decide) (by decide) (by decide) (by decide), c1 13 (by decide) (by decide) (by decide) (by decide), c1 16 (by decide) (by decide) (by decide) (by decide), c1 17 (by decide) (by decide) (by decide) (by decide), e4 0 (by decide) (by decide) (by decide), e4 3 (by decide) (by decide) (by decide), e1 1 (by decide) (by decide) (by decide) (by decide), e1 2 (by decide) (by decide) (by decide) (by decide), e1 5 (by decide) (by decide) (by decide) (by decide), e1 6 (by decide) (by decide) (by decide) (by decide), e2.1, e2.2.1, e2.2.2, e3.1, e3.2.1, e3.2.2, c3, c4, c5]
      refine ⟨q1, q2, q3, fun l hl => ?_, z4, z5, z6⟩
      obtain ⟨⟨r1, r2, r3, r4, r5⟩, r6, r7, r8, r9, r10⟩ := q4 l hl
      obtain ⟨⟨y1, y2, y3⟩, y4, y5, y6⟩ := z3 l hl
      obtain ⟨a1, a2, a3⟩ := c2 l (by omega)
      obtain ⟨b1, b2, b3⟩ := m3 l (by omega)
      rw [a1, a2, a3, b1, b2, b3]
      exact ⟨⟨y1, y2, r3, r4, y3⟩, y4, y5, r8, r9, y6⟩
    refine ⟨1, σ', ν2, Inv.fr h2 h3 h4 h5 h6 h7 hTw (fun k hk => c1 k (by omega) (by omega) (by omega) (by omega)) ⟨fun k hk => e1 k (by omega) (by omega) (by omega) (by omega), fun j hj => e4 j (by omega) (by omega) (by omega)⟩, fun d P => ?_, fun d P => ?_⟩
    · rw [clsS, if_neg (by rw [z1]; decide), c7]
      simp only [qX6_goBack_0, qX6_goBack_1, qX6_goBack_4, qX6_goBack_5, qX6_goBack_6, qX6_goBack_9, qX6_goBack_11, qX6_goBack_12, qX6_goBack_13, qX6_goBack_14, qX6_goBack_17a, qX6_goBack_17b, qX6_goBack_20, qX6_goBack_23, qX6_goBack_25, qX6_goBack_26, qX6_goBack_27, qX6_goBack_28, qX6_goBack_31, qX6_goBack_32, qX6_goBack_35a, qX6_goBack_35b, qX6_goBack_38, qX6_goBack_39, Option.toList, List.cons_append, List.nil_append]
    · rw [mdlS, if_neg (by rw [z2]; decide), m4]
      simp only [qX7_goBack_0, qX7_goBack_1, qX7_goBack_2, qX7_goBack_3, qX7_goBack_4, qX7_goBack_7, qX7_goBack_10, qX7_goBack_12, qX7_goBack_13, qX7_goBack_14, qX7_goBack_17, qX7_goBack_18, qX7_goBack_19, qX7_goBack_22, qX7_goBack_25, qX7_goBack_26, qX7_goBack_28, qX7_goBack_29, qX7_goBack_30, qX7_goBack_31, qX7_goBack_32, qX7_goBack_34, qX7_goBack_36, qX7_goBack_39, qX7_goBack_40, qX7_goBack_43, qX7_goBack_44, qX7_goBack_45, qX7_goBack_48, qX7_goBack_49, qX7_goBack_50, qX7_goBack_51, qX7_goBack_52, qX7_goBack_53, qX7_goBack_54, qX7_goBack_57, qX7_goBack_58, qX7_goBack_59, qX7_goBack_62, qX7_goBack_63, qX7_goBack_65, qX7_goBack_66, qX7_goBack_67, qX7_goBack_68, qX7_goBack_69, qX7_goBack_70, qX7_goBack_71, qX7_goBack_74, qX7_goBack_75, qX7_goBack_76, qX7_goBack_79, qX7_goBack_80, qX7_goBack_82, qX7_goBack_83, qX7_goBack_84, qX7_goBack_85, qX7_goBack_86, qX7_goBack_87, qX7_goBack_90, qX7_goBack_93, qX7_goBack_94, qX7_goBack_95, qX7_goBack_98, qX7_goBack_99, qX7_goBack_101, qX7_goBack_102, qX7_goBack_103, qX7_goBack_106, qX7_goBack_107, qX7_goBack_108, qX7_goBack_111, qX7_goBack_112, qX7_goBack_114, qX7_goBack_115, qX7_goBack_116, qX7_goBack_119, qX7_goBack_120, qX7_goBack_121, qX7_goBack_124, qX7_goBack_125, qX7_goBack_127, qX7_goBack_128, qX7_goBack_129, qX7_goBack_132, qX7_goBack_133, show nI 0 + 21 = nI 21 from rfl, show nI 0 + 22 = nI 22 from rfl, show nI 0 + 23 = nI 23 from rfl, show vp_in (nI 21) 60 from vp_in_nI (by decide) (by decide), show vp_in (nI 22) 60 from vp_in_nI (by decide) (by decide), show vp_in (nI 23) 60 from vp_in_nI (by decide) (by decide), show (nI 21).toNatClampNeg = 21 from nI_clamp (by decide), show (nI 22).toNatClampNeg = 22 from nI_clamp (by decide), show (nI 23).toNatClampNeg = 23 from nI_clamp (by decide), true_and, mm_sti_set, mm_set_1, Nat.reduceEqDiff, if_false, n23]
      rw [← hν]
      simp only [mm_sti_set, mm_set_1, Nat.reduceEqDiff, if_true, if_false]
theorem goBack_1 : Call 72 143 [.int 1] := by
  intro σ μ h
  have hI := h
  obtain ⟨n, np, h1, h2, h3, h4, h5, h6, h7⟩ := h
  have hn := h1.2.1.2.2
  have clsS : ∀ (d : Nat) (P : mm_O), mm_run shC (d + 40) 72 [.ref 0, .int 1] σ P = if σ.1 37 6 = 0 then P (some (.int (-1000000003))) σ else mm_run shC (d + 39) 1 [.ref 37, .ref 11] σ (fun v σ => mm_at shC (d + 39) 72 [] P 38 [.ref 0, .int 1] (v.toList ++ []) σ) := fun d P => by
    rw [in_X6_goBack]
    simp only [qX6_goBack_0, qX6_goBack_1, qX6_goBack_4, qX6_goBack_5, qX6_goBack_6, qX6_goBack_9, qX6_goBack_11, qX6_goBack_12, qX6_goBack_13, qX6_goBack_14, qX6_goBack_17a, qX6_goBack_17b, qX6_goBack_20, qX6_goBack_23, qX6_goBack_25, qX6_goBack_26, qX6_goBack_27, qX6_goBack_28, qX6_goBack_31, qX6_goBack_32, qX6_goBack_35a, qX6_goBack_35b, qX6_goBack_39, show ¬ (1 : Int32) < 0 by decide, show (1 : Int32) ≤ 1 by decide, if_true, if_false]
    rw [in_X6_imageOf]
    simp only [qX6_imageOf_0, qX6_imageOf_1, qX6_imageOf_4, qX6_imageOf_5, qX6_imageOf_8, qX6_imageOf_11, qX6_imageOf_12, qX6_imageOf_15, qX6_goBack_0, qX6_goBack_1, qX6_goBack_4, qX6_goBack_5, qX6_goBack_6, qX6_goBack_9, qX6_goBack_11, qX6_goBack_12, qX6_goBack_13, qX6_goBack_14, qX6_goBack_17a, qX6_goBack_17b, qX6_goBack_20, qX6_goBack_23, qX6_goBack_25, qX6_goBack_26, qX6_goBack_27, qX6_goBack_28, qX6_goBack_31, qX6_goBack_32, qX6_goBack_35a, qX6_goBack_35b, qX6_goBack_39, Option.toList, List.cons_append, List.nil_append, show ¬ (1 : Int32) = 0 by decide, if_true, if_false]
    by_cases e : σ.1 37 6 = 0
    · simp only [e, if_true]
    · simp only [e, if_false]
      rw [in_X6_imageOf]
      simp only [qX6_imageOf_0, qX6_imageOf_1, qX6_imageOf_4, qX6_imageOf_5, qX6_imageOf_8, qX6_imageOf_11, qX6_imageOf_12, qX6_imageOf_15, qX6_goBack_0, qX6_goBack_1, qX6_goBack_4, qX6_goBack_5, qX6_goBack_6, qX6_goBack_9, qX6_goBack_11, qX6_goBack_12, qX6_goBack_13, qX6_goBack_14, qX6_goBack_17a, qX6_goBack_17b, qX6_goBack_20, qX6_goBack_23, qX6_goBack_25, qX6_goBack_26, qX6_goBack_27, qX6_goBack_28, qX6_goBack_31, qX6_goBack_32, qX6_goBack_35a, qX6_goBack_35b, qX6_goBack_39, Option.toList, List.cons_append, List.nil_append, show ¬ (1 : Int32) = 0 by decide, if_true, if_false]
  have hi : (0 : Int64) ≤ (1 : Int32).toInt64 ∧ (1 : Int32).toInt64 ≤ 1 := by decide
  have mdlS : ∀ (d : Nat) (P : mm_O), mm_run shM (d + 40) 143 [.ref 0, .int 1] μ P = if μ.1 24 1 = 0 then P (some (.int (-1000000003))) μ else mm_at shM (d + 39) 143 [] P 33 [.ref 0, .int 1, .int (nI 30), .int (nI 0)] [] μ := fun d P => by
    rw [in_X7_goBack]
    simp only [qX7_goBack_0, qX7_goBack_1, qX7_goBack_2, qX7_goBack_3, qX7_goBack_4, qX7_goBack_7, qX7_goBack_10, qX7_goBack_12, qX7_goBack_13, qX7_goBack_14, qX7_goBack_17, qX7_goBack_18, qX7_goBack_19, qX7_goBack_22, qX7_goBack_25, qX7_goBack_26, qX7_goBack_28, qX7_goBack_29, qX7_goBack_30, qX7_goBack_31, qX7_goBack_32, qX7_goBack_34, qX7_goBack_36, qX7_goBack_39, qX7_goBack_40, qX7_goBack_43, qX7_goBack_44, qX7_goBack_45, qX7_goBack_48, qX7_goBack_49, qX7_goBack_50, qX7_goBack_51, qX7_goBack_52, qX7_goBack_53, qX7_goBack_54, qX7_goBack_57, qX7_goBack_58, qX7_goBack_59, qX7_goBack_62, qX7_goBack_63, qX7_goBack_65, qX7_goBack_66, qX7_goBack_67, qX7_goBack_68, qX7_goBack_69, qX7_goBack_70, qX7_goBack_71, qX7_goBack_74, qX7_goBack_75, qX7_goBack_76, qX7_goBack_79, qX7_goBack_80, qX7_goBack_82, qX7_goBack_83, qX7_goBack_84, qX7_goBack_85, qX7_goBack_86, qX7_goBack_87, qX7_goBack_90, qX7_goBack_93, qX7_goBack_94, qX7_goBack_95, qX7_goBack_98, qX7_goBack_99, qX7_goBack_101, qX7_goBack_102, qX7_goBack_103, qX7_goBack_106, qX7_goBack_107, qX7_goBack_108, qX7_goBack_111, qX7_goBack_112, qX7_goBack_114, qX7_goBack_115, qX7_goBack_116, qX7_goBack_119, qX7_goBack_120, qX7_goBack_121, qX7_goBack_124, qX7_goBack_125, qX7_goBack_127, qX7_goBack_128, qX7_goBack_129, qX7_goBack_132, qX7_goBack_133, s_Min, hi, and_self, if_true, show ¬ (1 : Int32) = 0 by decide, if_false, Option.toList, List.cons_append, List.nil_append, show vp_in (1 : Int32) 2 from vp_in_nI (n := 1) (by decide) (by decide), show (1 : Int32).toNatClampNeg = 1 from rfl, true_and]
    rfl
  have hy : (σ.1 37 6 = 0 ∧ μ.1 24 1 = 0) ∨ _ := h7
  rcases hy with ⟨z1, z2⟩ | ⟨z1, z2, z3, z4, z5, z6⟩
  · refine ⟨-1000000003, σ, μ, hI, fun d P => ?_, fun d P => ?_⟩
    · rw [clsS, if_pos z1]
    · rw [mdlS, if_pos z2]
  · obtain ⟨σ', c1, c2, ⟨c3, c4, c5⟩, c6, c7⟩ := s_giveTo_1 (σ := σ)
    obtain ⟨ν, m1, m3, m4⟩ := MgoBack_loop (μ := μ) (base := 30) (i := 1) (by decide) 7 0 μ (by omega) (fun _ _ _ _ => rfl) (fun l hl => by omega)
    have n0 := m1 0 (by decide) (by decide) (by decide)
    have n23 := m1 23 (by decide) (by decide) (by decide)
    generalize hν : mm_sti (mm_sti (mm_sti ν 0 10 (μ.1 23 51)) 0 9 (μ.1 23 52)) 0 11 (μ.1 23 53) = ν2
    have e1 : ∀ c, c ≠ 0 → c ≠ 3 → c ≠ 4 → c ≠ 7 → ν2.1 c = μ.1 c := fun c w x y z => by rw [← hν]; simp [mm_sti_set, mm_set_1, w]; exact m1 c x y z
    have e2 : ν2.1 3 = ν.1 3 ∧ ν2.1 4 = ν.1 4 ∧ ν2.1 7 = ν.1 7 := by rw [← hν]; simp [mm_sti_set, mm_set_1]
    have e3 : ν2.1 0 10 = μ.1 23 51 ∧ ν2.1 0 9 = μ.1 23 52 ∧ ν2.1 0 11 = μ.1 23 53 := by rw [← hν]; simp [mm_sti_set, mm_set_1, upd_1]
    have e4 : ∀ q, q ≠ 9 → q ≠ 10 → q ≠ 11 → ν2.1 0 q = μ.1 0 q := fun q x y z => by rw [← hν]; simp [mm_sti_set, mm_set_1, upd_1, x, y, z, n0]
    have hTw : TwR σ' ν2 n np := by
      obtain ⟨q1, q2, q3, q4, q5, q6, q7⟩ := h1
      unfold TwR
      rw [c6 7 (by decide) (by decide) (by decide), c6 8 (by decide) (by decide) (by decide), c1 12 (by decide) (by decide) (by decide) (by decide), c1 13 (by decide) (by decide) (by decide) (by decide), c1 16 (by decide) (by decide) (by decide) (by decide), c1 17 (by decide) (by decide) (by decide) (by decide), e4 0 (by decide) (by decide) (by decide), e4 3 (by decide) (by decide) (by decide), e1 1 (by decide) (by decide) (by decide) (by decide), e1 2 (by decide) (by decide) (by decide) (by decide), e1 5 (by decide) (by decide) (by decide) (by decide), e1 6 (by decide) (by decide) (by decide) (by decide), e2.1, e2.2.1, e2.2.2, e3.1, e3.2.1, e3.2.2, c3, c4, c5]
      refine ⟨q1, q2, q3, fun l hl => ?_, z4, z5, z6⟩
      obtain ⟨⟨r1, r2, r3, r4, r5⟩, r6, r7, r8, r9, r10⟩ := q4 l hl
      obtain ⟨⟨y1, y2, y3⟩, y4, y5, y6⟩ := z3 l hl
      obtain ⟨a1, a2, a3⟩ := c2 l (by omega)
      obtain ⟨b1, b2, b3⟩ := m3 l (by omega)
      rw [a1, a2, a3, b1, b2, b3]
      exact ⟨⟨y1, y2, r3, r4, y3⟩, y4, y5, r8, r9, y6⟩
    refine ⟨1, σ', ν2, Inv.fr h2 h3 h4 h5 h6 h7 hTw (fun k hk => c1 k (by omega) (by omega) (by omega) (by omega)) ⟨fun k hk => e1 k (by omega) (by omega) (by omega) (by omega), fun j hj => e4 j (by omega) (by omega) (by omega)⟩, fun d P => ?_, fun d P => ?_⟩
    · rw [clsS, if_neg (by rw [z1]; decide), c7]
      simp only [qX6_goBack_0, qX6_goBack_1, qX6_goBack_4, qX6_goBack_5, qX6_goBack_6, qX6_goBack_9, qX6_goBack_11, qX6_goBack_12, qX6_goBack_13, qX6_goBack_14, qX6_goBack_17a, qX6_goBack_17b, qX6_goBack_20, qX6_goBack_23, qX6_goBack_25, qX6_goBack_26, qX6_goBack_27, qX6_goBack_28, qX6_goBack_31, qX6_goBack_32, qX6_goBack_35a, qX6_goBack_35b, qX6_goBack_38, qX6_goBack_39, Option.toList, List.cons_append, List.nil_append]
    · rw [mdlS, if_neg (by rw [z2]; decide), m4]
      simp only [qX7_goBack_0, qX7_goBack_1, qX7_goBack_2, qX7_goBack_3, qX7_goBack_4, qX7_goBack_7, qX7_goBack_10, qX7_goBack_12, qX7_goBack_13, qX7_goBack_14, qX7_goBack_17, qX7_goBack_18, qX7_goBack_19, qX7_goBack_22, qX7_goBack_25, qX7_goBack_26, qX7_goBack_28, qX7_goBack_29, qX7_goBack_30, qX7_goBack_31, qX7_goBack_32, qX7_goBack_34, qX7_goBack_36, qX7_goBack_39, qX7_goBack_40, qX7_goBack_43, qX7_goBack_44, qX7_goBack_45, qX7_goBack_48, qX7_goBack_49, qX7_goBack_50, qX7_goBack_51, qX7_goBack_52, qX7_goBack_53, qX7_goBack_54, qX7_goBack_57, qX7_goBack_58, qX7_goBack_59, qX7_goBack_62, qX7_goBack_63, qX7_goBack_65, qX7_goBack_66, qX7_goBack_67, qX7_goBack_68, qX7_goBack_69, qX7_goBack_70, qX7_goBack_71, qX7_goBack_74, qX7_goBack_75, qX7_goBack_76, qX7_goBack_79, qX7_goBack_80, qX7_goBack_82, qX7_goBack_83, qX7_goBack_84, qX7_goBack_85, qX7_goBack_86, qX7_goBack_87, qX7_goBack_90, qX7_goBack_93, qX7_goBack_94, qX7_goBack_95, qX7_goBack_98, qX7_goBack_99, qX7_goBack_101, qX7_goBack_102, qX7_goBack_103, qX7_goBack_106, qX7_goBack_107, qX7_goBack_108, qX7_goBack_111, qX7_goBack_112, qX7_goBack_114, qX7_goBack_115, qX7_goBack_116, qX7_goBack_119, qX7_goBack_120, qX7_goBack_121, qX7_goBack_124, qX7_goBack_125, qX7_goBack_127, qX7_goBack_128, qX7_goBack_129, qX7_goBack_132, qX7_goBack_133, show nI 30 + 21 = nI 51 from rfl, show nI 30 + 22 = nI 52 from rfl, show nI 30 + 23 = nI 53 from rfl, show vp_in (nI 51) 60 from vp_in_nI (by decide) (by decide), show vp_in (nI 52) 60 from vp_in_nI (by decide) (by decide), show vp_in (nI 53) 60 from vp_in_nI (by decide) (by decide), show (nI 51).toNatClampNeg = 51 from nI_clamp (by decide), show (nI 52).toNatClampNeg = 52 from nI_clamp (by decide), show (nI 53).toNatClampNeg = 53 from nI_clamp (by decide), true_and, mm_sti_set, mm_set_1, Nat.reduceEqDiff, if_false, n23]
      rw [← hν]
      simp only [mm_sti_set, mm_set_1, Nat.reduceEqDiff, if_true, if_false]
theorem call_keep (i : Int32) : Call 71 142 [.int i] := by
  by_cases hw : rg i 0 1
  · obtain ⟨v, -, hv, rfl⟩ := hw
    have hv : v = 0 ∨ v = 1 := by omega
    rcases hv with rfl | rfl
    · exact keep_0
    · exact keep_1
  · intro σ μ h
    refine ⟨-1000000001, σ, μ, h, fun d P => ?_, fun d P => ?_⟩
    · rw [in_X6_keep]
      rcases out_of (by decide) hw with hq | ⟨hq, hq2⟩
      · simp only [qX6_keep_0, qX6_keep_1, qX6_keep_4, qX6_keep_5, qX6_keep_6, qX6_keep_9, qX6_keep_11, qX6_keep_12, qX6_keep_13, qX6_keep_14, qX6_keep_17, qX6_keep_18, qX6_keep_21a, qX6_keep_21b, qX6_keep_24, qX6_keep_25, hq, if_true]
      · simp only [qX6_keep_0, qX6_keep_1, qX6_keep_4, qX6_keep_5, qX6_keep_6, qX6_keep_9, qX6_keep_11, qX6_keep_12, qX6_keep_13, qX6_keep_14, qX6_keep_17, qX6_keep_18, qX6_keep_21a, qX6_keep_21b, qX6_keep_24, qX6_keep_25, hq, show ¬ i ≤ 1 from hq2, if_false]
    · have hi : ¬ ((0 : Int64) ≤ i.toInt64 ∧ i.toInt64 ≤ 1) := in_no (a := 0) (b := 1) rfl rfl (by decide) (by decide) hw
      rw [in_X7_keep]
      simp only [qX7_keep_0, qX7_keep_1, qX7_keep_2, qX7_keep_3, qX7_keep_4, qX7_keep_7, qX7_keep_10, qX7_keep_12, qX7_keep_13, qX7_keep_15, qX7_keep_16, qX7_keep_17, qX7_keep_18, qX7_keep_19, qX7_keep_21, qX7_keep_23, qX7_keep_26, qX7_keep_27, qX7_keep_30, qX7_keep_31, qX7_keep_32, qX7_keep_33, qX7_keep_34, qX7_keep_37, qX7_keep_38, qX7_keep_39, qX7_keep_40, qX7_keep_41, qX7_keep_44, qX7_keep_45, qX7_keep_47, qX7_keep_48, qX7_keep_49, qX7_keep_50, qX7_keep_51, qX7_keep_54, qX7_keep_55, qX7_keep_56, qX7_keep_57, qX7_keep_58, qX7_keep_61, qX7_keep_62, qX7_keep_64, qX7_keep_65, qX7_keep_66, qX7_keep_67, qX7_keep_68, qX7_keep_71, qX7_keep_72, qX7_keep_73, qX7_keep_74, qX7_keep_77, qX7_keep_80, qX7_keep_81, qX7_keep_84, qX7_keep_85, qX7_keep_87, qX7_keep_88, qX7_keep_89, qX7_keep_92, qX7_keep_93, qX7_keep_94, qX7_keep_97, qX7_keep_98, qX7_keep_100, qX7_keep_101, qX7_keep_102, qX7_keep_105, qX7_keep_106, qX7_keep_107, qX7_keep_110, qX7_keep_111, qX7_keep_113, qX7_keep_114, qX7_keep_115, qX7_keep_118, qX7_keep_119, qX7_keep_120, qX7_keep_123, qX7_keep_124, qX7_keep_125, qX7_keep_126, qX7_keep_127, s_Min, hi, if_true, if_false, Option.toList, List.cons_append, List.nil_append]
theorem call_goBack (i : Int32) : Call 72 143 [.int i] := by
  by_cases hw : rg i 0 1
  · obtain ⟨v, -, hv, rfl⟩ := hw
    have hv : v = 0 ∨ v = 1 := by omega
    rcases hv with rfl | rfl
    · exact goBack_0
    · exact goBack_1
  · intro σ μ h
    refine ⟨-1000000001, σ, μ, h, fun d P => ?_, fun d P => ?_⟩
    · rw [in_X6_goBack]
      rcases out_of (by decide) hw with hq | ⟨hq, hq2⟩
      · simp only [qX6_goBack_0, qX6_goBack_1, qX6_goBack_4, qX6_goBack_5, qX6_goBack_6, qX6_goBack_9, qX6_goBack_11, qX6_goBack_12, qX6_goBack_13, qX6_goBack_14, qX6_goBack_17a, qX6_goBack_17b, qX6_goBack_20, qX6_goBack_23, qX6_goBack_25, qX6_goBack_26, qX6_goBack_27, qX6_goBack_28, qX6_goBack_31, qX6_goBack_32, qX6_goBack_35a, qX6_goBack_35b, qX6_goBack_38, qX6_goBack_39, hq, if_true]
      · simp only [qX6_goBack_0, qX6_goBack_1, qX6_goBack_4, qX6_goBack_5, qX6_goBack_6, qX6_goBack_9, qX6_goBack_11, qX6_goBack_12, qX6_goBack_13, qX6_goBack_14, qX6_goBack_17a, qX6_goBack_17b, qX6_goBack_20, qX6_goBack_23, qX6_goBack_25, qX6_goBack_26, qX6_goBack_27, qX6_goBack_28, qX6_goBack_31, qX6_goBack_32, qX6_goBack_35a, qX6_goBack_35b, qX6_goBack_38, qX6_goBack_39, hq, show ¬ i ≤ 1 from hq2, if_false]
    · have hi : ¬ ((0 : Int64) ≤ i.toInt64 ∧ i.toInt64 ≤ 1) := in_no (a := 0) (b := 1) rfl rfl (by decide) (by decide) hw
      rw [in_X7_goBack]
      simp only [qX7_goBack_0, qX7_goBack_1, qX7_goBack_2, qX7_goBack_3, qX7_goBack_4, qX7_goBack_7, qX7_goBack_10, qX7_goBack_12, qX7_goBack_13, qX7_goBack_14, qX7_goBack_17, qX7_goBack_18, qX7_goBack_19, qX7_goBack_22, qX7_goBack_25, qX7_goBack_26, qX7_goBack_28, qX7_goBack_29, qX7_goBack_30, qX7_goBack_31, qX7_goBack_32, qX7_goBack_34, qX7_goBack_36, qX7_goBack_39, qX7_goBack_40, qX7_goBack_43, qX7_goBack_44, qX7_goBack_45, qX7_goBack_48, qX7_goBack_49, qX7_goBack_50, qX7_goBack_51, qX7_goBack_52, qX7_goBack_53, qX7_goBack_54, qX7_goBack_57, qX7_goBack_58, qX7_goBack_59, qX7_goBack_62, qX7_goBack_63, qX7_goBack_65, qX7_goBack_66, qX7_goBack_67, qX7_goBack_68, qX7_goBack_69, qX7_goBack_70, qX7_goBack_71, qX7_goBack_74, qX7_goBack_75, qX7_goBack_76, qX7_goBack_79, qX7_goBack_80, qX7_goBack_82, qX7_goBack_83, qX7_goBack_84, qX7_goBack_85, qX7_goBack_86, qX7_goBack_87, qX7_goBack_90, qX7_goBack_93, qX7_goBack_94, qX7_goBack_95, qX7_goBack_98, qX7_goBack_99, qX7_goBack_101, qX7_goBack_102, qX7_goBack_103, qX7_goBack_106, qX7_goBack_107, qX7_goBack_108, qX7_goBack_111, qX7_goBack_112, qX7_goBack_114, qX7_goBack_115, qX7_goBack_116, qX7_goBack_119, qX7_goBack_120, qX7_goBack_121, qX7_goBack_124, qX7_goBack_125, qX7_goBack_127, qX7_goBack_128, qX7_goBack_129, qX7_goBack_132, qX7_goBack_133, s_Min, hi, if_true, if_false, Option.toList, List.cons_append, List.nil_append]
