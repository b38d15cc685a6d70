/-! CALLS: ends -/
def allF (p : Nat → Bool) : Nat → Bool
  | 0 => true
  | k + 1 => allF p k && p k
theorem allF_iff {p : Nat → Bool} : ∀ {k : Nat}, allF p k = true ↔ ∀ i, i < k → p i = true
  | 0 => ⟨fun _ i hi => by omega, fun _ => rfl⟩
  | k + 1 => by
    unfold allF
    rw [Bool.and_eq_true, allF_iff]
    exact ⟨fun q i hi => by
      rcases Nat.lt_or_ge i k with h | h
      · exact q.1 i h
      · rw [show i = k by omega]; exact q.2, fun q => ⟨fun i hi => q i (by omega), q k (by omega)⟩⟩
theorem allF_congr {p q : Nat → Bool} : ∀ {k : Nat}, (∀ i, i < k → p i = q i) → allF p k = allF q k
  | 0, _ => rfl
  | k + 1, h => by unfold allF; rw [allF_congr (fun i hi => h i (by omega)), h k (by omega)]
/-- the order that comes of a letter's heavy v, is it the told one (C told, cr) -/
def tdF (hv : Nat → Int32) (n : Nat) (law : Int32) (l C : Nat) (cr : Nat → Nat) (v : Nat) : Bool := decide (C = n) && allF (fun k => decide (nI (ordF (upd hv l (nI v)) n law k) = nI (cr k))) C
def enF (w : Int32) (t : Nat → Bool) : Nat → Int32
  | 0 => -1
  | v + 1 => if (w = 1 ∨ enF w t v = -1) ∧ t (v + 1) = true then nI (v + 1) else enF w t v
theorem ends_loop {σ : mm_M} {n l C : Nat} {w : Int32} {cr : Nat → Nat} (hT : okT σ n) (hl : l < n) (hCn : C = n) (c1 : σ.1 0 11 = nI C) (hc : ∀ k, k < C → σ.1 42 k = nI (cr k)) : ∀ (j v : Nat) (τ : mm_M), j + v = 108 → (∀ k, k ≠ 20 → k ≠ 21 → τ.1 k = σ.1 k) → (∀ i, i < n → i ≠ l → τ.1 20 i = hvF σ 18 i) → ∃ τ' : mm_M, (∀ k, k ≠ 20 → k ≠ 21 → τ'.1 k = σ.1 k) ∧ ∀ (d : Nat) (P : mm_O), mm_at shC (d + 2) 66 [] P 79 [.ref 0, .int (nI l), .int w, .int (enF w (tdF (hvF σ 18) n (σ.1 11 10) l C cr) v), .int (nI (v + 1))] [] τ = P (some (.int (enF w (tdF (hvF σ 18) n (σ.1 11 10) l C cr) 108))) τ' := by
  have hn := hT.2.1
  intro j
  induction j with
  | zero =>
    intro v τ hv k1 k2
    have hv : v = 108 := by omega
    subst hv
    refine ⟨τ, k1, fun d P => ?_⟩
    rw [qX6_ends_79]
    simp only [qX6_ends_0, qX6_ends_1, qX6_ends_4, qX6_ends_5, qX6_ends_8, qX6_ends_11, qX6_ends_13, qX6_ends_14, qX6_ends_15, qX6_ends_18, qX6_ends_19, qX6_ends_20, qX6_ends_23, qX6_ends_25, qX6_ends_26, qX6_ends_27, qX6_ends_30, qX6_ends_33, qX6_ends_34, qX6_ends_37, qX6_ends_39, qX6_ends_40, qX6_ends_41, qX6_ends_44, qX6_ends_45, qX6_ends_48, qX6_ends_51, qX6_ends_54, qX6_ends_55, qX6_ends_56, qX6_ends_57, qX6_ends_60, qX6_ends_61, qX6_ends_64, qX6_ends_65, qX6_ends_68, qX6_ends_71, qX6_ends_74, qX6_ends_75, qX6_ends_76, qX6_ends_77, qX6_ends_81, qX6_ends_83, qX6_ends_86, qX6_ends_87, qX6_ends_90, qX6_ends_93, qX6_ends_94, qX6_ends_96, qX6_ends_99, qX6_ends_100, qX6_ends_103, qX6_ends_104, qX6_ends_107, qX6_ends_110, qX6_ends_111, qX6_ends_114, qX6_ends_117, qX6_ends_120, qX6_ends_121, qX6_ends_122, qX6_ends_125, qX6_ends_126, qX6_ends_127, qX6_ends_130, qX6_ends_131, qX6_ends_134, qX6_ends_137, qX6_ends_138, qX6_ends_141, qX6_ends_142, qX6_ends_145, qX6_ends_148, qX6_ends_151, qX6_ends_153, qX6_ends_154, qX6_ends_157, qX6_ends_160, qX6_ends_161, show (108 : Int32) < nI (108 + 1) by decide, if_true]
  | succ j ih =>
    intro v τ hv k1 k2
    have h1 : ¬ (108 : Int32) < nI (v + 1) := show ¬ nI 108 < nI (v + 1) from nI_nlt (by omega) (by decide)
    generalize hτ1 : mm_set τ 20 (upd (τ.1 20) l (nI (v + 1))) = τ1
    have e1 : ∀ i, i < n → τ1.1 20 i = upd (hvF σ 18) l (nI (v + 1)) i := fun i hi => by
      rw [← hτ1, mm_set_same, upd_1, upd_1]
      by_cases e : i = l
      · rw [if_pos e, if_pos e]
      · rw [if_neg e, if_neg e]; exact k2 i hi e
    have e2 : ∀ k, k ≠ 20 → τ1.1 k = τ.1 k := fun k hk => by rw [← hτ1, mm_set_ne _ _ hk]
    have f1 := fun (d : Nat) (P : mm_O) => s_sort_19 (d := d) (P := P) (σ := τ1) (law := σ.1 11 10) hn
    generalize hτ2 : mm_set τ1 21 (fun i => if i < n then nI (ordF (τ1.1 20) n (σ.1 11 10) i) else τ1.1 21 i) = τ2 at f1
    have e3 : ∀ k, k ≠ 20 → k ≠ 21 → τ2.1 k = σ.1 k := fun k hk hk2 => by rw [← hτ2, mm_set_ne _ _ hk2, e2 k hk]; exact k1 k hk hk2
    have e4 : ∀ k, k < n → τ2.1 21 k = nI (ordF (upd (hvF σ 18) l (nI (v + 1))) n (σ.1 11 10) k) := fun k hk => by
      rw [← hτ2, mm_set_same, if_pos hk]
      exact congrArg nI (ordF_congr e1 k)
    have e5 : ∀ i, i < n → i ≠ l → τ2.1 20 i = hvF σ 18 i := fun i hi hil => by
      rw [← hτ2, mm_set_ne _ _ (by decide), e1 i hi, upd_1, if_neg hil]
    have f2 := fun (d : Nat) (P : mm_O) => s_sameRows (d := d) (P := P) (σ := τ2) (a := 21) (b := 42) (n := 7) (m := 7) (c := C) rfl rfl (by omega) (by omega) (by decide) (by decide)
    have e6 : (∀ i, i < C → τ2.1 21 i = τ2.1 42 i) ↔ tdF (hvF σ 18) n (σ.1 11 10) l C cr (v + 1) = true := by
      unfold tdF
      rw [decide_eq_true hCn, Bool.true_and, allF_iff]
      refine ⟨fun q k hk => ?_, fun q k hk => ?_⟩
      · have := q k hk
        rw [e4 k (by omega), e3 42 (by decide) (by decide), hc k hk] at this
        exact decide_eq_true this
      · rw [e4 k (by omega), e3 42 (by decide) (by decide), hc k hk]
        exact of_decide_eq_true (q k hk)
    obtain ⟨τ', i1, i2⟩ := ih (v + 1) τ2 (by omega) e3 e5
    refine ⟨τ', i1, fun d P => ?_⟩
    rw [← i2 d P]
    have t8 : τ1.1 11 8 = nI n := by rw [e2 11 (by decide), k1 11 (by decide) (by decide)]; exact hT.1
    have t10 : τ1.1 11 10 = σ.1 11 10 := by rw [e2 11 (by decide), k1 11 (by decide) (by decide)]
    have tc : τ2.1 0 11 = nI C := by rw [e3 0 (by decide) (by decide)]; exact c1
    have hput : putF (τ.1 20) 7 (nI l) (nI (v + 1)) = upd (τ.1 20) l (nI (v + 1)) := putF_in _ _ (by omega) (by decide)
    rw [qX6_ends_79]
    simp only [qX6_ends_0, qX6_ends_1, qX6_ends_4, qX6_ends_5, qX6_ends_8, qX6_ends_11, qX6_ends_13, qX6_ends_14, qX6_ends_15, qX6_ends_18, qX6_ends_19, qX6_ends_20, qX6_ends_23, qX6_ends_25, qX6_ends_26, qX6_ends_27, qX6_ends_30, qX6_ends_33, qX6_ends_34, qX6_ends_37, qX6_ends_39, qX6_ends_40, qX6_ends_41, qX6_ends_44, qX6_ends_45, qX6_ends_48, qX6_ends_51, qX6_ends_54, qX6_ends_55, qX6_ends_56, qX6_ends_57, qX6_ends_60, qX6_ends_61, qX6_ends_64, qX6_ends_65, qX6_ends_68, qX6_ends_71, qX6_ends_74, qX6_ends_75, qX6_ends_76, qX6_ends_77, qX6_ends_81, qX6_ends_83, qX6_ends_86, qX6_ends_87, qX6_ends_90, qX6_ends_93, qX6_ends_94, qX6_ends_96, qX6_ends_99, qX6_ends_100, qX6_ends_103, qX6_ends_104, qX6_ends_107, qX6_ends_110, qX6_ends_111, qX6_ends_114, qX6_ends_117, qX6_ends_120, qX6_ends_121, qX6_ends_122, qX6_ends_125, qX6_ends_126, qX6_ends_127, qX6_ends_130, qX6_ends_131, qX6_ends_134, qX6_ends_137, qX6_ends_138, qX6_ends_141, qX6_ends_142, qX6_ends_145, qX6_ends_148, qX6_ends_151, qX6_ends_153, qX6_ends_154, qX6_ends_157, qX6_ends_160, qX6_ends_161, h1, if_false, s_put_20, hput, hτ1, t8, t10, f1, Option.toList, List.cons_append, List.nil_append, nI_1]
    by_cases hw : w = 1
    · subst hw
      simp only [qX6_ends_0, qX6_ends_1, qX6_ends_4, qX6_ends_5, qX6_ends_8, qX6_ends_11, qX6_ends_13, qX6_ends_14, qX6_ends_15, qX6_ends_18, qX6_ends_19, qX6_ends_20, qX6_ends_23, qX6_ends_25, qX6_ends_26, qX6_ends_27, qX6_ends_30, qX6_ends_33, qX6_ends_34, qX6_ends_37, qX6_ends_39, qX6_ends_40, qX6_ends_41, qX6_ends_44, qX6_ends_45, qX6_ends_48, qX6_ends_51, qX6_ends_54, qX6_ends_55, qX6_ends_56, qX6_ends_57, qX6_ends_60, qX6_ends_61, qX6_ends_64, qX6_ends_65, qX6_ends_68, qX6_ends_71, qX6_ends_74, qX6_ends_75, qX6_ends_76, qX6_ends_77, qX6_ends_81, qX6_ends_83, qX6_ends_86, qX6_ends_87, qX6_ends_90, qX6_ends_93, qX6_ends_94, qX6_ends_96, qX6_ends_99, qX6_ends_100, qX6_ends_103, qX6_ends_104, qX6_ends_107, qX6_ends_110, qX6_ends_111, qX6_ends_114, qX6_ends_117, qX6_ends_120, qX6_ends_121, qX6_ends_122, qX6_ends_125, qX6_ends_126, qX6_ends_127, qX6_ends_130, qX6_ends_131, qX6_ends_134, qX6_ends_137, qX6_ends_138, qX6_ends_141, qX6_ends_142, qX6_ends_145, qX6_ends_148, qX6_ends_151, qX6_ends_153, qX6_ends_154, qX6_ends_157, qX6_ends_160, qX6_ends_161, if_true, tc, f2, Option.toList, List.cons_append, List.nil_append, nI_1]
      by_cases ht : tdF (hvF σ 18) n (σ.1 11 10) l C cr (v + 1) = true
      · rw [if_pos (e6.mpr ht)]
        simp only [enF, ht, true_or, and_self, if_true, show ¬ (1 : Int32) = 0 by decide, if_false]
      · rw [if_neg (fun q => ht (e6.mp q))]
        simp only [enF, ht, and_false, if_false, if_true, Bool.false_eq_true]
    · simp only [hw, if_false]
      by_cases he : enF w (tdF (hvF σ 18) n (σ.1 11 10) l C cr) v = -1
      · simp only [qX6_ends_0, qX6_ends_1, qX6_ends_4, qX6_ends_5, qX6_ends_8, qX6_ends_11, qX6_ends_13, qX6_ends_14, qX6_ends_15, qX6_ends_18, qX6_ends_19, qX6_ends_20, qX6_ends_23, qX6_ends_25, qX6_ends_26, qX6_ends_27, qX6_ends_30, qX6_ends_33, qX6_ends_34, qX6_ends_37, qX6_ends_39, qX6_ends_40, qX6_ends_41, qX6_ends_44, qX6_ends_45, qX6_ends_48, qX6_ends_51, qX6_ends_54, qX6_ends_55, qX6_ends_56, qX6_ends_57, qX6_ends_60, qX6_ends_61, qX6_ends_64, qX6_ends_65, qX6_ends_68, qX6_ends_71, qX6_ends_74, qX6_ends_75, qX6_ends_76, qX6_ends_77, qX6_ends_81, qX6_ends_83, qX6_ends_86, qX6_ends_87, qX6_ends_90, qX6_ends_93, qX6_ends_94, qX6_ends_96, qX6_ends_99, qX6_ends_100, qX6_ends_103, qX6_ends_104, qX6_ends_107, qX6_ends_110, qX6_ends_111, qX6_ends_114, qX6_ends_117, qX6_ends_120, qX6_ends_121, qX6_ends_122, qX6_ends_125, qX6_ends_126, qX6_ends_127, qX6_ends_130, qX6_ends_131, qX6_ends_134, qX6_ends_137, qX6_ends_138, qX6_ends_141, qX6_ends_142, qX6_ends_145, qX6_ends_148, qX6_ends_151, qX6_ends_153, qX6_ends_154, qX6_ends_157, qX6_ends_160, qX6_ends_161, he, if_true, tc, f2, Option.toList, List.cons_append, List.nil_append, nI_1]
        by_cases ht : tdF (hvF σ 18) n (σ.1 11 10) l C cr (v + 1) = true
        · rw [if_pos (e6.mpr ht)]
          simp only [enF, ht, he, or_true, and_self, if_true, show ¬ (1 : Int32) = 0 by decide, if_false]
        · rw [if_neg (fun q => ht (e6.mp q))]
          simp only [enF, ht, he, and_false, if_false, if_true, Bool.false_eq_true]
      · simp only [he, if_false, enF, hw, or_self, false_and]
theorem Mtold_loop {d n C : Nat} {P : mm_O} {μ : mm_M} {l v : Int32} {od cr : Nat → Nat} (hn : n ≤ 7) (hC : C ≤ n) (c2 : μ.1 0 36 = nI C) (ho : ∀ k, k < n → μ.1 15 k = nI (od k)) (hc : ∀ k, k < C → μ.1 20 k = nI (cr k)) (b : Bool) : ∀ (j k : Nat), j + k = C → mm_at shM d 136 [] P 35 [.ref 0, .int l, .int v, .int (bI (b && allF (fun i => decide (nI (od i) = nI (cr i))) k)), .int (nI k)] [] μ = P (some (.int (bI (b && allF (fun i => decide (nI (od i) = nI (cr i))) C)))) μ := by
  intro j
  induction j with
  | zero =>
    intro k hk
    have hk : k = C := by omega
    subst hk
    rw [qX7_isTold_35]
    simp only [qX7_isTold_0, qX7_isTold_1, qX7_isTold_4, qX7_isTold_5, qX7_isTold_8, qX7_isTold_9, qX7_isTold_10, qX7_isTold_11, qX7_isTold_12, qX7_isTold_15, qX7_isTold_16, qX7_isTold_19, qX7_isTold_20, qX7_isTold_23, qX7_isTold_26, qX7_isTold_27, qX7_isTold_30, qX7_isTold_31, qX7_isTold_32, qX7_isTold_33, qX7_isTold_37, qX7_isTold_38, qX7_isTold_41, qX7_isTold_44, qX7_isTold_45, qX7_isTold_48, qX7_isTold_49, qX7_isTold_52, qX7_isTold_54, qX7_isTold_55, qX7_isTold_56, qX7_isTold_59, qX7_isTold_61, qX7_isTold_62, qX7_isTold_65, qX7_isTold_66, qX7_isTold_69, qX7_isTold_70, qX7_isTold_71, qX7_isTold_74, qX7_isTold_77, qX7_isTold_78, c2, show nI k ≤ nI k from nI_le (Nat.le_refl k) (by omega), if_true]
    have hz : bI (b && allF (fun i => decide (nI (od i) = nI (cr i))) k) = 0 ∨ bI (b && allF (fun i => decide (nI (od i) = nI (cr i))) k) = 1 := by unfold bI; split <;> simp
    simp [hz]
  | succ j ih =>
    intro k hk
    have h1 : ¬ nI C ≤ nI k := nI_ge (by omega) (by omega)
    have h2 : vp_in (nI k) 7 := vp_in_nI (by omega) (by decide)
    have h3 : (nI k).toNatClampNeg = k := nI_clamp (by omega)
    have e := ih (k + 1) (by omega)
    rw [allF, ← Bool.and_assoc] at e
    rw [qX7_isTold_35]
    generalize (b && allF (fun i => decide (nI (od i) = nI (cr i))) k) = c at e
    cases c with
    | false =>
      simp only [Bool.false_and] at e
      simp only [qX7_isTold_0, qX7_isTold_1, qX7_isTold_4, qX7_isTold_5, qX7_isTold_8, qX7_isTold_9, qX7_isTold_10, qX7_isTold_11, qX7_isTold_12, qX7_isTold_15, qX7_isTold_16, qX7_isTold_19, qX7_isTold_20, qX7_isTold_23, qX7_isTold_26, qX7_isTold_27, qX7_isTold_30, qX7_isTold_31, qX7_isTold_32, qX7_isTold_33, qX7_isTold_37, qX7_isTold_38, qX7_isTold_41, qX7_isTold_44, qX7_isTold_45, qX7_isTold_48, qX7_isTold_49, qX7_isTold_52, qX7_isTold_54, qX7_isTold_55, qX7_isTold_56, qX7_isTold_59, qX7_isTold_61, qX7_isTold_62, qX7_isTold_65, qX7_isTold_66, qX7_isTold_69, qX7_isTold_70, qX7_isTold_71, qX7_isTold_74, qX7_isTold_77, qX7_isTold_78, c2, h1, if_false, bI, if_true, nI_1, Bool.false_eq_true]
      simpa [bI] using e
    | true =>
      simp only [Bool.true_and] at e
      by_cases hq : nI (od k) = nI (cr k)
      · simp only [qX7_isTold_0, qX7_isTold_1, qX7_isTold_4, qX7_isTold_5, qX7_isTold_8, qX7_isTold_9, qX7_isTold_10, qX7_isTold_11, qX7_isTold_12, qX7_isTold_15, qX7_isTold_16, qX7_isTold_19, qX7_isTold_20, qX7_isTold_23, qX7_isTold_26, qX7_isTold_27, qX7_isTold_30, qX7_isTold_31, qX7_isTold_32, qX7_isTold_33, qX7_isTold_37, qX7_isTold_38, qX7_isTold_41, qX7_isTold_44, qX7_isTold_45, qX7_isTold_48, qX7_isTold_49, qX7_isTold_52, qX7_isTold_54, qX7_isTold_55, qX7_isTold_56, qX7_isTold_59, qX7_isTold_61, qX7_isTold_62, qX7_isTold_65, qX7_isTold_66, qX7_isTold_69, qX7_isTold_70, qX7_isTold_71, qX7_isTold_74, qX7_isTold_77, qX7_isTold_78, c2, h1, h2, h3, ho k (by omega), hc k (by omega), hq, true_and, if_false, bI, if_true, nI_1, show ¬ (1 : Int32) = 0 by decide]
        simpa [bI, hq] using e
      · simp only [qX7_isTold_0, qX7_isTold_1, qX7_isTold_4, qX7_isTold_5, qX7_isTold_8, qX7_isTold_9, qX7_isTold_10, qX7_isTold_11, qX7_isTold_12, qX7_isTold_15, qX7_isTold_16, qX7_isTold_19, qX7_isTold_20, qX7_isTold_23, qX7_isTold_26, qX7_isTold_27, qX7_isTold_30, qX7_isTold_31, qX7_isTold_32, qX7_isTold_33, qX7_isTold_37, qX7_isTold_38, qX7_isTold_41, qX7_isTold_44, qX7_isTold_45, qX7_isTold_48, qX7_isTold_49, qX7_isTold_52, qX7_isTold_54, qX7_isTold_55, qX7_isTold_56, qX7_isTold_59, qX7_isTold_61, qX7_isTold_62, qX7_isTold_65, qX7_isTold_66, qX7_isTold_69, qX7_isTold_70, qX7_isTold_71, qX7_isTold_74, qX7_isTold_77, qX7_isTold_78, c2, h1, h2, h3, ho k (by omega), hc k (by omega), hq, true_and, if_false, bI, if_true, nI_1, show ¬ (1 : Int32) = 0 by decide]
        simpa [bI, hq] using e
theorem s_MisTold {μ : mm_M} {n l v C : Nat} {cr : Nat → Nat} (hM : okM μ n) (hl : l < n) (hC : C ≤ n) (c2 : μ.1 0 36 = nI C) (hc : ∀ k, k < C → μ.1 20 k = nI (cr k)) : ∃ ν : mm_M, (∀ k, k ≠ 15 → k ≠ 16 → ν.1 k = μ.1 k) ∧ ∀ (d : Nat) (P : mm_O), mm_run shM (d + 4) 136 [.ref 0, .int (nI l), .int (nI v)] μ P = P (some (.int (bI (tdF (hvM μ) n (μ.1 0 10) l C cr v)))) ν := by
  obtain ⟨hc0, hn, hg⟩ := hM
  generalize hν1 : mm_set (shF μ n) 16 (upd ((shF μ n).1 16) l (nI v)) = ν1
  have e2 : ∀ k, k ≠ 16 → ν1.1 k = μ.1 k := fun k hk => by rw [← hν1, mm_set_ne _ _ hk]; simp [shF, mm_set_1, hk]
  have e1 : ∀ i, i < n → ν1.1 16 i = upd (hvM μ) l (nI v) i := fun i hi => by
    rw [← hν1, mm_set_same, upd_1, upd_1]
    by_cases e : i = l
    · rw [if_pos e, if_pos e]
    · rw [if_neg e, if_neg e]; simp [shF, mm_set_1, hi]
  have t3 : ν1.1 0 3 = nI n := by rw [e2 0 (by decide)]; exact hc0
  have t10 : ν1.1 0 10 = μ.1 0 10 := by rw [e2 0 (by decide)]
  have f1 := fun (d : Nat) (P : mm_O) => s_MputInOrder (d := d) (P := P) (μ := ν1) hn t3
  generalize hν2 : mm_set ν1 15 (fun i => if i < n then nI (ordF (ν1.1 16) n (ν1.1 0 10) i) else ν1.1 15 i) = ν2 at f1
  have e3 : ∀ k, k ≠ 15 → k ≠ 16 → ν2.1 k = μ.1 k := fun k hk hk2 => by rw [← hν2, mm_set_ne _ _ hk, e2 k hk2]
  have e4 : ∀ k, k < n → ν2.1 15 k = nI (ordF (upd (hvM μ) l (nI v)) n (μ.1 0 10) k) := fun k hk => by
    rw [← hν2, mm_set_same, if_pos hk, t10]
    exact congrArg nI (ordF_congr e1 k)
  have h2 : vp_in (nI l) 7 := vp_in_nI (by omega) (by decide)
  have h3 : (nI l).toNatClampNeg = l := nI_clamp (by omega)
  have tc : ν2.1 0 36 = nI C := by rw [e3 0 (by decide) (by decide)]; exact c2
  have tn : ν2.1 0 3 = nI n := by rw [e3 0 (by decide) (by decide)]; exact hc0
  refine ⟨ν2, e3, fun d P => ?_⟩
  rw [in_X7_isTold]
  have lp := fun b => Mtold_loop (d := d + 3) (P := P) (μ := ν2) (l := nI l) (v := nI v) (od := ordF (upd (hvM μ) l (nI v)) n (μ.1 0 10)) (cr := cr) hn hC tc e4 (fun k hk => by rw [e3 20 (by decide) (by decide)]; exact hc k hk) b C 0 (by omega)
  by_cases hCn : C = n
  · have e := lp true
    simp only [Bool.true_and] at e
    unfold tdF
    rw [decide_eq_true hCn, Bool.true_and]
    simp only [qX7_isTold_0, qX7_isTold_1, qX7_isTold_4, qX7_isTold_5, qX7_isTold_8, qX7_isTold_9, qX7_isTold_10, qX7_isTold_11, qX7_isTold_12, qX7_isTold_15, qX7_isTold_16, qX7_isTold_19, qX7_isTold_20, qX7_isTold_23, qX7_isTold_26, qX7_isTold_27, qX7_isTold_30, qX7_isTold_31, qX7_isTold_32, qX7_isTold_33, qX7_isTold_37, qX7_isTold_38, qX7_isTold_41, qX7_isTold_44, qX7_isTold_45, qX7_isTold_48, qX7_isTold_49, qX7_isTold_52, qX7_isTold_54, qX7_isTold_55, qX7_isTold_56, qX7_isTold_59, qX7_isTold_61, qX7_isTold_62, qX7_isTold_65, qX7_isTold_66, qX7_isTold_69, qX7_isTold_70, qX7_isTold_71, qX7_isTold_74, qX7_isTold_77, qX7_isTold_78, s_MsetHeavy hn hc0, h2, h3, true_and, mm_sti_set, hν1, f1, tc, tn, show nI C = nI n by rw [hCn], if_true, Option.toList, List.cons_append, List.nil_append]
    rw [show nI 0 = 0 from rfl] at e
    simpa [bI, allF] using e
  · have e := lp false
    simp only [Bool.false_and] at e
    unfold tdF
    rw [decide_eq_false hCn, Bool.false_and]
    simp only [qX7_isTold_0, qX7_isTold_1, qX7_isTold_4, qX7_isTold_5, qX7_isTold_8, qX7_isTold_9, qX7_isTold_10, qX7_isTold_11, qX7_isTold_12, qX7_isTold_15, qX7_isTold_16, qX7_isTold_19, qX7_isTold_20, qX7_isTold_23, qX7_isTold_26, qX7_isTold_27, qX7_isTold_30, qX7_isTold_31, qX7_isTold_32, qX7_isTold_33, qX7_isTold_37, qX7_isTold_38, qX7_isTold_41, qX7_isTold_44, qX7_isTold_45, qX7_isTold_48, qX7_isTold_49, qX7_isTold_52, qX7_isTold_54, qX7_isTold_55, qX7_isTold_56, qX7_isTold_59, qX7_isTold_61, qX7_isTold_62, qX7_isTold_65, qX7_isTold_66, qX7_isTold_69, qX7_isTold_70, qX7_isTold_71, qX7_isTold_74, qX7_isTold_77, qX7_isTold_78, s_MsetHeavy hn hc0, h2, h3, true_and, mm_sti_set, hν1, f1, tc, tn, show ¬ nI C = nI n from fun q => hCn ((nI_eq (by omega) (by omega)).mp q), if_false, Option.toList, List.cons_append, List.nil_append]
    rw [show nI 0 = 0 from rfl] at e
    simpa [bI] using e
def lsF (t : Nat → Bool) : Nat → Int32 × Int32
  | 0 => (-1, -1)
  | v + 1 => if t (v + 1) = true then (if (lsF t v).1 < 0 then nI (v + 1) else (lsF t v).1, nI (v + 1)) else lsF t v
theorem lsF_1 (t : Nat → Bool) : ∀ v, v < 1000 → (lsF t v).1 = -1 ∨ ∃ q, q < 1000 ∧ (lsF t v).1 = nI q
  | 0, _ => Or.inl rfl
  | v + 1, h => by
    unfold lsF
    have e := lsF_1 t v (by omega)
    split
    · split
      · exact Or.inr ⟨v + 1, h, rfl⟩
      · exact e
    · exact e
theorem en_ls {w : Int32} (t : Nat → Bool) (hw : w = 0 ∨ w = 1) : ∀ v, v < 1000 → enF w t v = if w = 0 then (lsF t v).1 else (lsF t v).2
  | 0, _ => by unfold enF lsF; split <;> rfl
  | v + 1, h => by
    have e := en_ls t hw v (by omega)
    unfold enF lsF
    rw [e]
    by_cases ht : t (v + 1) = true
    · rw [if_pos ht]
      rcases hw with rfl | rfl
      · simp only [if_true, ht, and_true, show ¬ (0 : Int32) = 1 by decide, false_or]
        rcases lsF_1 t v (by omega) with q | ⟨q, q1, q2⟩
        · rw [q]; rfl
        · rw [q2, if_neg (nI_m1 (by omega)), if_neg (nI_neg (by omega))]
      · simp [ht]
    · rw [if_neg ht]
      simp [ht]
theorem Mends_loop {μ : mm_M} {n l C : Nat} {w : Int32} {cr : Nat → Nat} (hM : okM μ n) (hl : l < n) (hC : C ≤ n) (c2 : μ.1 0 36 = nI C) (hc : ∀ k, k < C → μ.1 20 k = nI (cr k)) : ∀ (j v : Nat) (ν : mm_M), j + v = 108 → (∀ k, k ≠ 15 → k ≠ 16 → ν.1 k = μ.1 k) → ∃ ν' : mm_M, (∀ k, k ≠ 15 → k ≠ 16 → ν'.1 k = μ.1 k) ∧ ∀ (d : Nat) (P : mm_O), mm_at shM (d + 4) 137 [] P 44 [.ref 0, .int (nI l), .int w, .int (lsF (tdF (hvM μ) n (μ.1 0 10) l C cr) v).1, .int (lsF (tdF (hvM μ) n (μ.1 0 10) l C cr) v).2, .int (nI (v + 1))] [] ν = P (some (.int (if w = 0 then (lsF (tdF (hvM μ) n (μ.1 0 10) l C cr) 108).1 else (lsF (tdF (hvM μ) n (μ.1 0 10) l C cr) 108).2))) ν' := by
  intro j
  induction j with
  | zero =>
    intro v ν hv k1
    have hv : v = 108 := by omega
    subst hv
    refine ⟨ν, k1, fun d P => ?_⟩
    rw [qX7_ends_44]
    simp only [qX7_ends_0, qX7_ends_1, qX7_ends_2, qX7_ends_5, qX7_ends_8, qX7_ends_10, qX7_ends_11, qX7_ends_12, qX7_ends_13, qX7_ends_14, qX7_ends_15, qX7_ends_18, qX7_ends_21, qX7_ends_23, qX7_ends_24, qX7_ends_25, qX7_ends_28, qX7_ends_29, qX7_ends_32, qX7_ends_35, qX7_ends_36, qX7_ends_37, qX7_ends_38, qX7_ends_39, qX7_ends_41, qX7_ends_42, qX7_ends_46, qX7_ends_48, qX7_ends_51, qX7_ends_52, qX7_ends_53, qX7_ends_55, qX7_ends_58, qX7_ends_61, qX7_ends_62, qX7_ends_65, qX7_ends_67, qX7_ends_70, qX7_ends_71, qX7_ends_72, qX7_ends_74, qX7_ends_76, qX7_ends_79, qX7_ends_82, qX7_ends_83, qX7_ends_86, qX7_ends_87, qX7_ends_90, qX7_ends_92, show (108 : Int32) < nI (108 + 1) by decide, if_true]
    by_cases hw : w = 0 <;> simp only [hw, if_true, if_false]
  | succ j ih =>
    intro v ν hv k1
    have h1 : ¬ (108 : Int32) < nI (v + 1) := show ¬ nI 108 < nI (v + 1) from nI_nlt (by omega) (by decide)
    have c0 := k1 0 (by decide) (by decide)
    have hMν : okM ν n := by
      unfold okM at hM ⊢
      rw [c0, k1 3 (by decide) (by decide)]
      exact hM
    have hhv : hvM ν = hvM μ := by
      funext i
      unfold hvM
      rw [k1 4 (by decide) (by decide), k1 7 (by decide) (by decide)]
    obtain ⟨ν2, m1, m2⟩ := s_MisTold (v := v + 1) (cr := cr) hMν hl hC (by rw [c0]; exact c2) (fun k hk => by rw [k1 20 (by decide) (by decide)]; exact hc k hk)
    rw [hhv, c0] at m2
    obtain ⟨ν', i1, i2⟩ := ih (v + 1) ν2 (by omega) (fun k h h' => (m1 k h h').trans (k1 k h h'))
    refine ⟨ν', i1, fun d P => ?_⟩
    rw [← i2 d P]
    rw [qX7_ends_44]
    simp only [qX7_ends_0, qX7_ends_1, qX7_ends_2, qX7_ends_5, qX7_ends_8, qX7_ends_10, qX7_ends_11, qX7_ends_12, qX7_ends_13, qX7_ends_14, qX7_ends_15, qX7_ends_18, qX7_ends_21, qX7_ends_23, qX7_ends_24, qX7_ends_25, qX7_ends_28, qX7_ends_29, qX7_ends_32, qX7_ends_35, qX7_ends_36, qX7_ends_37, qX7_ends_38, qX7_ends_39, qX7_ends_41, qX7_ends_42, qX7_ends_46, qX7_ends_48, qX7_ends_51, qX7_ends_52, qX7_ends_53, qX7_ends_55, qX7_ends_58, qX7_ends_61, qX7_ends_62, qX7_ends_65, qX7_ends_67, qX7_ends_70, qX7_ends_71, qX7_ends_72, qX7_ends_74, qX7_ends_76, qX7_ends_79, qX7_ends_82, qX7_ends_83, qX7_ends_86, qX7_ends_87, qX7_ends_90, qX7_ends_92, h1, if_false, m2, Option.toList, List.cons_append, List.nil_append, nI_1]
    rw [lsF]
    by_cases ht : tdF (hvM μ) n (μ.1 0 10) l C cr (v + 1) = true
    · simp only [ht, bI, if_true, show ¬ (1 : Int32) = 0 by decide, if_false]
      by_cases hq : 0 ≤ (lsF (tdF (hvM μ) n (μ.1 0 10) l C cr) v).1
      · simp only [hq, if_true, if_neg (Int32.not_lt.mpr hq)]
      · simp only [hq, if_false, if_pos (Int32.not_le.mp hq)]
    · simp only [ht, bI, if_true, if_false, Bool.false_eq_true]
theorem call_ends (l w : Int32) : Call 66 137 [.int l, .int w] := by
  intro σ μ h
  have hI := h
  obtain ⟨n, np, h1, h2, h3, h4, h5, h6, h7⟩ := h
  have hT := h1.okT
  have hM := h1.okM
  have hn7 := hT.2.1
  have hn : n < 2 ^ 31 := by omega
  by_cases hp : hasF (nI n) l = 0
  · refine ⟨-1000000001, σ, μ, hI, fun d P => ?_, fun d P => ?_⟩
    · rw [in_X6_ends]
      simp only [qX6_ends_0, qX6_ends_1, qX6_ends_4, qX6_ends_5, qX6_ends_8, qX6_ends_11, qX6_ends_13, qX6_ends_14, qX6_ends_15, qX6_ends_18, qX6_ends_19, qX6_ends_20, qX6_ends_23, qX6_ends_25, qX6_ends_26, qX6_ends_27, qX6_ends_30, qX6_ends_33, qX6_ends_34, qX6_ends_37, qX6_ends_39, qX6_ends_40, qX6_ends_41, qX6_ends_44, qX6_ends_45, qX6_ends_48, qX6_ends_51, qX6_ends_54, qX6_ends_55, qX6_ends_56, qX6_ends_57, qX6_ends_60, qX6_ends_61, qX6_ends_64, qX6_ends_65, qX6_ends_68, qX6_ends_71, qX6_ends_74, qX6_ends_75, qX6_ends_76, qX6_ends_77, qX6_ends_81, qX6_ends_83, qX6_ends_86, qX6_ends_87, qX6_ends_90, qX6_ends_93, qX6_ends_94, qX6_ends_96, qX6_ends_99, qX6_ends_100, qX6_ends_103, qX6_ends_104, qX6_ends_107, qX6_ends_110, qX6_ends_111, qX6_ends_114, qX6_ends_117, qX6_ends_120, qX6_ends_121, qX6_ends_122, qX6_ends_125, qX6_ends_126, qX6_ends_127, qX6_ends_130, qX6_ends_131, qX6_ends_134, qX6_ends_137, qX6_ends_138, qX6_ends_141, qX6_ends_142, qX6_ends_145, qX6_ends_148, qX6_ends_151, qX6_ends_153, qX6_ends_154, qX6_ends_157, qX6_ends_160, qX6_ends_161, s_hasLetter, hT.1, hp, if_true, if_false, Option.toList, List.cons_append, List.nil_append]
    · rw [in_X7_ends]
      simp only [qX7_ends_0, qX7_ends_1, qX7_ends_2, qX7_ends_5, qX7_ends_8, qX7_ends_10, qX7_ends_11, qX7_ends_12, qX7_ends_13, qX7_ends_14, qX7_ends_15, qX7_ends_18, qX7_ends_21, qX7_ends_23, qX7_ends_24, qX7_ends_25, qX7_ends_28, qX7_ends_29, qX7_ends_32, qX7_ends_35, qX7_ends_36, qX7_ends_37, qX7_ends_38, qX7_ends_39, qX7_ends_41, qX7_ends_42, qX7_ends_46, qX7_ends_48, qX7_ends_51, qX7_ends_52, qX7_ends_53, qX7_ends_55, qX7_ends_58, qX7_ends_61, qX7_ends_62, qX7_ends_65, qX7_ends_67, qX7_ends_70, qX7_ends_71, qX7_ends_72, qX7_ends_74, qX7_ends_76, qX7_ends_79, qX7_ends_82, qX7_ends_83, qX7_ends_86, qX7_ends_87, qX7_ends_90, qX7_ends_92, s_MisLetter hn hM.1, hp, if_true, if_false, Option.toList, List.cons_append, List.nil_append]
  · obtain ⟨k, hk, rfl⟩ := hasF_1 hn hp
    by_cases hw : rg w 0 1
    · have hi : (0 : Int64) ≤ w.toInt64 ∧ w.toInt64 ≤ 1 := in_yes (a := 0) (b := 1) rfl rfl (by decide) hw
      have hw01 : w = 0 ∨ w = 1 := by
        obtain ⟨v, -, hv, rfl⟩ := hw
        have hv : v = 0 ∨ v = 1 := by omega
        rcases hv with rfl | rfl
        · exact Or.inl rfl
        · exact Or.inr rfl
      have hw0 : ¬ w < 0 := by rcases hw01 with rfl | rfl <;> decide
      have hw1 : w ≤ 1 := by rcases hw01 with rfl | rfl <;> decide
      by_cases hlaw : σ.1 11 10 = 2
      · have hlm : μ.1 0 10 = 2 := by rw [← h1.law]; exact hlaw
        refine ⟨-1000000003, σ, μ, hI, fun d P => ?_, fun d P => ?_⟩
        · rw [in_X6_ends]
          simp only [qX6_ends_0, qX6_ends_1, qX6_ends_4, qX6_ends_5, qX6_ends_8, qX6_ends_11, qX6_ends_13, qX6_ends_14, qX6_ends_15, qX6_ends_18, qX6_ends_19, qX6_ends_20, qX6_ends_23, qX6_ends_25, qX6_ends_26, qX6_ends_27, qX6_ends_30, qX6_ends_33, qX6_ends_34, qX6_ends_37, qX6_ends_39, qX6_ends_40, qX6_ends_41, qX6_ends_44, qX6_ends_45, qX6_ends_48, qX6_ends_51, qX6_ends_54, qX6_ends_55, qX6_ends_56, qX6_ends_57, qX6_ends_60, qX6_ends_61, qX6_ends_64, qX6_ends_65, qX6_ends_68, qX6_ends_71, qX6_ends_74, qX6_ends_75, qX6_ends_76, qX6_ends_77, qX6_ends_81, qX6_ends_83, qX6_ends_86, qX6_ends_87, qX6_ends_90, qX6_ends_93, qX6_ends_94, qX6_ends_96, qX6_ends_99, qX6_ends_100, qX6_ends_103, qX6_ends_104, qX6_ends_107, qX6_ends_110, qX6_ends_111, qX6_ends_114, qX6_ends_117, qX6_ends_120, qX6_ends_121, qX6_ends_122, qX6_ends_125, qX6_ends_126, qX6_ends_127, qX6_ends_130, qX6_ends_131, qX6_ends_134, qX6_ends_137, qX6_ends_138, qX6_ends_141, qX6_ends_142, qX6_ends_145, qX6_ends_148, qX6_ends_151, qX6_ends_153, qX6_ends_154, qX6_ends_157, qX6_ends_160, qX6_ends_161, s_hasLetter, hT.1, hp, hw0, hw1, hlaw, if_true, if_false, Option.toList, List.cons_append, List.nil_append]
        · rw [in_X7_ends]
          simp only [qX7_ends_0, qX7_ends_1, qX7_ends_2, qX7_ends_5, qX7_ends_8, qX7_ends_10, qX7_ends_11, qX7_ends_12, qX7_ends_13, qX7_ends_14, qX7_ends_15, qX7_ends_18, qX7_ends_21, qX7_ends_23, qX7_ends_24, qX7_ends_25, qX7_ends_28, qX7_ends_29, qX7_ends_32, qX7_ends_35, qX7_ends_36, qX7_ends_37, qX7_ends_38, qX7_ends_39, qX7_ends_41, qX7_ends_42, qX7_ends_46, qX7_ends_48, qX7_ends_51, qX7_ends_52, qX7_ends_53, qX7_ends_55, qX7_ends_58, qX7_ends_61, qX7_ends_62, qX7_ends_65, qX7_ends_67, qX7_ends_70, qX7_ends_71, qX7_ends_72, qX7_ends_74, qX7_ends_76, qX7_ends_79, qX7_ends_82, qX7_ends_83, qX7_ends_86, qX7_ends_87, qX7_ends_90, qX7_ends_92, s_MisLetter hn hM.1, s_Min, hp, hi, hlm, and_self, if_true, if_false, Option.toList, List.cons_append, List.nil_append, show ¬ (1 : Int32) = 0 by decide]
      · have hlm : ¬ μ.1 0 10 = 2 := by rw [← h1.law]; exact hlaw
        obtain ⟨C, cr, hC, c1, c2, c3, c4⟩ := h4
        obtain ⟨ν', m1, m2⟩ := Mends_loop (w := w) (cr := cr) hM hk hC c2 (fun i hi => (c3 i hi).2.1) 108 0 μ (by omega) (fun _ _ _ => rfl)
        have hagν : AgM μ ν' := ⟨fun i hi => m1 i (by omega) (by omega), fun j _ => by rw [m1 0 (by decide) (by decide)]⟩
        have mdl : ∀ (d : Nat) (P : mm_O), mm_run shM (d + 40) 137 [.ref 0, .int (nI k), .int w] μ P = P (some (.int (if w = 0 then (lsF (tdF (hvM μ) n (μ.1 0 10) k C cr) 108).1 else (lsF (tdF (hvM μ) n (μ.1 0 10) k C cr) 108).2))) ν' := fun d P => by
          rw [in_X7_ends]
          simp only [qX7_ends_0, qX7_ends_1, qX7_ends_2, qX7_ends_5, qX7_ends_8, qX7_ends_10, qX7_ends_11, qX7_ends_12, qX7_ends_13, qX7_ends_14, qX7_ends_15, qX7_ends_18, qX7_ends_21, qX7_ends_23, qX7_ends_24, qX7_ends_25, qX7_ends_28, qX7_ends_29, qX7_ends_32, qX7_ends_35, qX7_ends_36, qX7_ends_37, qX7_ends_38, qX7_ends_39, qX7_ends_41, qX7_ends_42, qX7_ends_46, qX7_ends_48, qX7_ends_51, qX7_ends_52, qX7_ends_53, qX7_ends_55, qX7_ends_58, qX7_ends_61, qX7_ends_62, qX7_ends_65, qX7_ends_67, qX7_ends_70, qX7_ends_71, qX7_ends_72, qX7_ends_74, qX7_ends_76, qX7_ends_79, qX7_ends_82, qX7_ends_83, qX7_ends_86, qX7_ends_87, qX7_ends_90, qX7_ends_92, s_MisLetter hn hM.1, s_Min, hp, hi, hlm, and_self, if_true, if_false, Option.toList, List.cons_append, List.nil_append, show ¬ (1 : Int32) = 0 by decide]
          exact m2 _ P
        by_cases hCn : C = n
        · have htd : ∀ v, tdF (hvF σ 18) n (σ.1 11 10) k C cr v = tdF (hvM μ) n (μ.1 0 10) k C cr v := fun v => by
            unfold tdF
            rw [h1.law]
            congr 1
            refine allF_congr fun i hi => ?_
            rw [ordF_congr (hv := upd (hvF σ 18) k (nI v)) (hw := upd (hvM μ) k (nI v)) (fun i hi => by rw [upd_1, upd_1, h1.hv hi]) i]
          have f0 := fun (d : Nat) (P : mm_O) => s_weigh_19 (d := d) (P := P) (σ := σ) (S := 18) (n := n) rfl (by decide) hn7 hT.1
          generalize hτ : mm_set σ 20 (fun l => if l < n then σ.1 15 l + σ.1 18 l else σ.1 20 l) = τ at f0
          have t1 : ∀ i, i ≠ 20 → i ≠ 21 → τ.1 i = σ.1 i := fun i hi _ => by rw [← hτ, mm_set_ne _ _ hi]
          obtain ⟨τ', n1, n2⟩ := ends_loop (w := w) (cr := cr) hT hk hCn c1 (fun i hi => (c3 i hi).1) 108 0 τ (by omega) t1 (fun i hi _ => by rw [← hτ, mm_set_same, if_pos hi]; rfl)
          have hagτ : AgC σ τ' := fun i hi => n1 i (by omega) (by omega)
          refine ⟨enF w (tdF (hvF σ 18) n (σ.1 11 10) k C cr) 108, τ', ν', hI.ag hagτ hagν, fun d P => ?_, fun d P => ?_⟩
          · rw [in_X6_ends]
            simp only [qX6_ends_0, qX6_ends_1, qX6_ends_4, qX6_ends_5, qX6_ends_8, qX6_ends_11, qX6_ends_13, qX6_ends_14, qX6_ends_15, qX6_ends_18, qX6_ends_19, qX6_ends_20, qX6_ends_23, qX6_ends_25, qX6_ends_26, qX6_ends_27, qX6_ends_30, qX6_ends_33, qX6_ends_34, qX6_ends_37, qX6_ends_39, qX6_ends_40, qX6_ends_41, qX6_ends_44, qX6_ends_45, qX6_ends_48, qX6_ends_51, qX6_ends_54, qX6_ends_55, qX6_ends_56, qX6_ends_57, qX6_ends_60, qX6_ends_61, qX6_ends_64, qX6_ends_65, qX6_ends_68, qX6_ends_71, qX6_ends_74, qX6_ends_75, qX6_ends_76, qX6_ends_77, qX6_ends_81, qX6_ends_83, qX6_ends_86, qX6_ends_87, qX6_ends_90, qX6_ends_93, qX6_ends_94, qX6_ends_96, qX6_ends_99, qX6_ends_100, qX6_ends_103, qX6_ends_104, qX6_ends_107, qX6_ends_110, qX6_ends_111, qX6_ends_114, qX6_ends_117, qX6_ends_120, qX6_ends_121, qX6_ends_122, qX6_ends_125, qX6_ends_126, qX6_ends_127, qX6_ends_130, qX6_ends_131, qX6_ends_134, qX6_ends_137, qX6_ends_138, qX6_ends_141, qX6_ends_142, qX6_ends_145, qX6_ends_148, qX6_ends_151, qX6_ends_153, qX6_ends_154, qX6_ends_157, qX6_ends_160, qX6_ends_161, s_hasLetter, hT.1, hp, hw0, hw1, hlaw, c1, hCn, show ¬ nI n < nI n from nI_nlt (Nat.le_refl n) hn, show nI n ≤ nI n from nI_le (Nat.le_refl n) hn, f0, if_true, if_false, Option.toList, List.cons_append, List.nil_append]
            rw [← hCn]
            have e := n2 (d + 37) P
            rw [← hCn] at e
            exact e
          · rw [mdl, en_ls _ hw01 108 (by omega)]
            rw [show tdF (hvF σ 18) n (σ.1 11 10) k C cr = tdF (hvM μ) n (μ.1 0 10) k C cr from funext htd]
        · have hno : ∀ v, lsF (tdF (hvM μ) n (μ.1 0 10) k C cr) v = (-1, -1) := fun v => by
            induction v with
            | zero => rfl
            | succ v ih => rw [lsF, if_neg (by unfold tdF; simp [hCn]), ih]
          refine ⟨-1, σ, ν', hI.ag (AgC.rf σ) hagν, fun d P => ?_, fun d P => ?_⟩
          · rw [in_X6_ends]
            simp only [qX6_ends_0, qX6_ends_1, qX6_ends_4, qX6_ends_5, qX6_ends_8, qX6_ends_11, qX6_ends_13, qX6_ends_14, qX6_ends_15, qX6_ends_18, qX6_ends_19, qX6_ends_20, qX6_ends_23, qX6_ends_25, qX6_ends_26, qX6_ends_27, qX6_ends_30, qX6_ends_33, qX6_ends_34, qX6_ends_37, qX6_ends_39, qX6_ends_40, qX6_ends_41, qX6_ends_44, qX6_ends_45, qX6_ends_48, qX6_ends_51, qX6_ends_54, qX6_ends_55, qX6_ends_56, qX6_ends_57, qX6_ends_60, qX6_ends_61, qX6_ends_64, qX6_ends_65, qX6_ends_68, qX6_ends_71, qX6_ends_74, qX6_ends_75, qX6_ends_76, qX6_ends_77, qX6_ends_81, qX6_ends_83, qX6_ends_86, qX6_ends_87, qX6_ends_90, qX6_ends_93, qX6_ends_94, qX6_ends_96, qX6_ends_99, qX6_ends_100, qX6_ends_103, qX6_ends_104, qX6_ends_107, qX6_ends_110, qX6_ends_111, qX6_ends_114, qX6_ends_117, qX6_ends_120, qX6_ends_121, qX6_ends_122, qX6_ends_125, qX6_ends_126, qX6_ends_127, qX6_ends_130, qX6_ends_131, qX6_ends_134, qX6_ends_137, qX6_ends_138, qX6_ends_141, qX6_ends_142, qX6_ends_145, qX6_ends_148, qX6_ends_151, qX6_ends_153, qX6_ends_154, qX6_ends_157, qX6_ends_160, qX6_ends_161, s_hasLetter, hT.1, hp, hw0, hw1, hlaw, c1, show nI C < nI n from nI_lt (by omega) hn, show ¬ nI n ≤ nI C from nI_ge (by omega) hn, if_true, if_false, Option.toList, List.cons_append, List.nil_append]
          · rw [mdl, hno]
            congr 3
            split <;> rfl
    · refine ⟨-1000000002, σ, μ, hI, fun d P => ?_, fun d P => ?_⟩
      · rw [in_X6_ends]
        rcases out_of (by decide) hw with hq | ⟨hq, hq2⟩
        · simp only [qX6_ends_0, qX6_ends_1, qX6_ends_4, qX6_ends_5, qX6_ends_8, qX6_ends_11, qX6_ends_13, qX6_ends_14, qX6_ends_15, qX6_ends_18, qX6_ends_19, qX6_ends_20, qX6_ends_23, qX6_ends_25, qX6_ends_26, qX6_ends_27, qX6_ends_30, qX6_ends_33, qX6_ends_34, qX6_ends_37, qX6_ends_39, qX6_ends_40, qX6_ends_41, qX6_ends_44, qX6_ends_45, qX6_ends_48, qX6_ends_51, qX6_ends_54, qX6_ends_55, qX6_ends_56, qX6_ends_57, qX6_ends_60, qX6_ends_61, qX6_ends_64, qX6_ends_65, qX6_ends_68, qX6_ends_71, qX6_ends_74, qX6_ends_75, qX6_ends_76, qX6_ends_77, qX6_ends_81, qX6_ends_83, qX6_ends_86, qX6_ends_87, qX6_ends_90, qX6_ends_93, qX6_ends_94, qX6_ends_96, qX6_ends_99, qX6_ends_100, qX6_ends_103, qX6_ends_104, qX6_ends_107, qX6_ends_110, qX6_ends_111, qX6_ends_114, qX6_ends_117, qX6_ends_120, qX6_ends_121, qX6_ends_122, qX6_ends_125, qX6_ends_126, qX6_ends_127, qX6_ends_130, qX6_ends_131, qX6_ends_134, qX6_ends_137, qX6_ends_138, qX6_ends_141, qX6_ends_142, qX6_ends_145, qX6_ends_148, qX6_ends_151, qX6_ends_153, qX6_ends_154, qX6_ends_157, qX6_ends_160, qX6_ends_161, s_hasLetter, hT.1, hp, hq, if_true, if_false, Option.toList, List.cons_append, List.nil_append]
        · simp only [qX6_ends_0, qX6_ends_1, qX6_ends_4, qX6_ends_5, qX6_ends_8, qX6_ends_11, qX6_ends_13, qX6_ends_14, qX6_ends_15, qX6_ends_18, qX6_ends_19, qX6_ends_20, qX6_ends_23, qX6_ends_25, qX6_ends_26, qX6_ends_27, qX6_ends_30, qX6_ends_33, qX6_ends_34, qX6_ends_37, qX6_ends_39, qX6_ends_40, qX6_ends_41, qX6_ends_44, qX6_ends_45, qX6_ends_48, qX6_ends_51, qX6_ends_54, qX6_ends_55, qX6_ends_56, qX6_ends_57, qX6_ends_60, qX6_ends_61, qX6_ends_64, qX6_ends_65, qX6_ends_68, qX6_ends_71, qX6_ends_74, qX6_ends_75, qX6_ends_76, qX6_ends_77, qX6_ends_81, qX6_ends_83, qX6_ends_86, qX6_ends_87, qX6_ends_90, qX6_ends_93, qX6_ends_94, qX6_ends_96, qX6_ends_99, qX6_ends_100, qX6_ends_103, qX6_ends_104, qX6_ends_107, qX6_ends_110, qX6_ends_111, qX6_ends_114, qX6_ends_117, qX6_ends_120, qX6_ends_121, qX6_ends_122, qX6_ends_125, qX6_ends_126, qX6_ends_127, qX6_ends_130, qX6_ends_131, qX6_ends_134, qX6_ends_137, qX6_ends_138, qX6_ends_141, qX6_ends_142, qX6_ends_145, qX6_ends_148, qX6_ends_151, qX6_ends_153, qX6_ends_154, qX6_ends_157, qX6_ends_160, qX6_ends_161, s_hasLetter, hT.1, hp, hq, show ¬ w ≤ 1 from hq2, if_true, if_false, Option.toList, List.cons_append, List.nil_append]
      · have hi : ¬ ((0 : Int64) ≤ w.toInt64 ∧ w.toInt64 ≤ 1) := in_no (a := 0) (b := 1) rfl rfl (by decide) (by decide) hw
        rw [in_X7_ends]
        simp only [qX7_ends_0, qX7_ends_1, qX7_ends_2, qX7_ends_5, qX7_ends_8, qX7_ends_10, qX7_ends_11, qX7_ends_12, qX7_ends_13, qX7_ends_14, qX7_ends_15, qX7_ends_18, qX7_ends_21, qX7_ends_23, qX7_ends_24, qX7_ends_25, qX7_ends_28, qX7_ends_29, qX7_ends_32, qX7_ends_35, qX7_ends_36, qX7_ends_37, qX7_ends_38, qX7_ends_39, qX7_ends_41, qX7_ends_42, qX7_ends_46, qX7_ends_48, qX7_ends_51, qX7_ends_52, qX7_ends_53, qX7_ends_55, qX7_ends_58, qX7_ends_61, qX7_ends_62, qX7_ends_65, qX7_ends_67, qX7_ends_70, qX7_ends_71, qX7_ends_72, qX7_ends_74, qX7_ends_76, qX7_ends_79, qX7_ends_82, qX7_ends_83, qX7_ends_86, qX7_ends_87, qX7_ends_90, qX7_ends_92, s_MisLetter hn hM.1, s_Min, hp, hi, if_true, if_false, Option.toList, List.cons_append, List.nil_append]
