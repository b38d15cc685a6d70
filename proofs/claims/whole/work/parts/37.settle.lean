/-! SETTLE -/
def okB (σ : mm_M) (n : Nat) : Prop := okT σ n ∧ ∀ l, l < n → ∃ w, w ≤ 99 ∧ σ.1 17 l = nI w
theorem okB.of {σ τ : mm_M} {n : Nat} (h : okB σ n) (e : ∀ k, 11 ≤ k ∧ k < 19 → τ.1 k = σ.1 k) : okB τ n := by
  unfold okB okT
  rw [e 11 (by omega), e 14 (by omega), e 17 (by omega)]
  exact h
theorem abC_of {σ τ : mm_M} {n : Nat} {c : Int32} (e : ∀ k, 11 ≤ k ∧ k < 19 → τ.1 k = σ.1 k) : abC c τ n = abC c σ n := by
  funext s l
  unfold abC cmC
  rw [e 11 (by omega), e 12 (by omega), e 13 (by omega), e 14 (by omega), e 15 (by omega), e 16 (by omega), e 17 (by omega)]
theorem round_loop {σ : mm_M} {n c r : Nat} {s : Nat → Int32} (hB : okB σ n) (hc : c ≤ 99) : ∀ (j l : Nat) (τ : mm_M) (a6 : Value), j + l = n → (∀ k, k < 27 ∨ 31 < k → τ.1 k = σ.1 k) → τ.1 27 = rdG (abC (nI c) σ n) s l → ∃ (τ' : mm_M) (a6' : Value), (∀ k, k < 27 ∨ 31 < k → τ'.1 k = σ.1 k) ∧ τ'.1 27 = rdG (abC (nI c) σ n) s n ∧ ∀ (d : Nat) (P : mm_O), mm_at shC (d + 6) 35 [] P 31 [.ref 26, .ref 11, .int (nI c), .int (nI r), .int (bI (chG (abC (nI c) σ n) s l)), .int (nI l), a6] [] τ = mm_at shC (d + 6) 35 [] P 93 [.ref 26, .ref 11, .int (nI c), .int (nI r), .int (bI (chG (abC (nI c) σ n) s n)), .int (nI n), a6'] [] τ' := by
  have hn := hB.1.2.1
  have c8 := hB.1.1
  intro j
  induction j with
  | zero =>
    intro l τ a6 hl k1 k2
    have hl : l = n := by omega
    subst hl
    refine ⟨τ, a6, k1, k2, fun d P => ?_⟩
    have t8 : τ.1 11 8 = nI l := by rw [k1 11 (by omega)]; exact c8
    rw [qX4_settle_31]
    simp only [qX4_settle_0, qX4_settle_1, qX4_settle_2, qX4_settle_5, qX4_settle_6, qX4_settle_8, qX4_settle_10, qX4_settle_13, qX4_settle_14, qX4_settle_17, qX4_settle_18, qX4_settle_19, qX4_settle_22, qX4_settle_25, qX4_settle_26, qX4_settle_28, qX4_settle_29, qX4_settle_33, qX4_settle_34a, qX4_settle_34b, qX4_settle_37, qX4_settle_40, qX4_settle_41, qX4_settle_42, qX4_settle_44, qX4_settle_45, qX4_settle_48, qX4_settle_50, qX4_settle_52, qX4_settle_55, qX4_settle_57, qX4_settle_58, qX4_settle_61, qX4_settle_63, qX4_settle_66, qX4_settle_69, qX4_settle_70, qX4_settle_73, qX4_settle_74, qX4_settle_76, qX4_settle_77, qX4_settle_80, qX4_settle_82, qX4_settle_84, qX4_settle_87, qX4_settle_90, qX4_settle_95, qX4_settle_98, qX4_settle_99, qX4_settle_100, qX4_settle_103, qX4_settle_104, qX4_settle_105, qX4_settle_106, qX4_settle_107, qX4_settle_108, qX4_settle_109, qX4_settle_112, qX4_settle_115, qX4_settle_116, qX4_settle_117, qX4_settle_120, qX4_settle_123, qX4_settle_124, t8, show nI l ≤ nI l from Int32.le_refl _, if_true]
  | succ j ih =>
    intro l τ a6 hl k1 k2
    have hl7 : l < 7 := by omega
    have h1 : ¬ nI n ≤ nI l := nI_ge (by omega) (by omega)
    have t8 : τ.1 11 8 = nI n := by rw [k1 11 (by omega)]; exact c8
    have hBτ : okB τ n := hB.of (fun k hk => k1 k (by omega))
    have hA : abC (nI c) τ n = abC (nI c) σ n := abC_of (fun k hk => k1 k (by omega))
    obtain ⟨w, hw2, hw⟩ := hBτ.2 l (by omega)
    obtain ⟨τ1, i1, i2⟩ := s_bestStones (σ := τ) (n := n) (l := l) (c := c) (w := w) hBτ.1 (by omega) hw hw2 hc
    rw [hA, k2] at i2
    generalize hA2 : abC (nI c) σ n = A at *
    have e0 : τ1.1 27 = rdG A s l := by rw [i1 27 (by omega), k2]
    have e1 : rdG A s l l = s l := rdG_o (Nat.le_refl _)
    have hput : putF (rdG A s l) 7 (nI l) (nI (A (rdG A s l) l)) = rdG A s (l + 1) := putF_in _ _ hl7 (by decide)
    obtain ⟨τ', a6', j1, j2, j3⟩ := ih (l + 1) (mm_set τ1 27 (rdG A s (l + 1))) (.int (nI (A (rdG A s l) l))) (by omega) (fun k hk => by rw [mm_set_ne _ _ (by omega), i1 k (by omega)]; exact k1 k hk) (mm_set_same _ _ _)
    refine ⟨τ', a6', j1, j2, fun d P => ?_⟩
    rw [← j3 d P, qX4_settle_31]
    simp only [qX4_settle_0, qX4_settle_1, qX4_settle_2, qX4_settle_5, qX4_settle_6, qX4_settle_8, qX4_settle_10, qX4_settle_13, qX4_settle_14, qX4_settle_17, qX4_settle_18, qX4_settle_19, qX4_settle_22, qX4_settle_25, qX4_settle_26, qX4_settle_28, qX4_settle_29, qX4_settle_33, qX4_settle_34a, qX4_settle_34b, qX4_settle_37, qX4_settle_40, qX4_settle_41, qX4_settle_42, qX4_settle_44, qX4_settle_45, qX4_settle_48, qX4_settle_50, qX4_settle_52, qX4_settle_55, qX4_settle_57, qX4_settle_58, qX4_settle_61, qX4_settle_63, qX4_settle_66, qX4_settle_69, qX4_settle_70, qX4_settle_73, qX4_settle_74, qX4_settle_76, qX4_settle_77, qX4_settle_80, qX4_settle_82, qX4_settle_84, qX4_settle_87, qX4_settle_90, qX4_settle_95, qX4_settle_98, qX4_settle_99, qX4_settle_100, qX4_settle_103, qX4_settle_104, qX4_settle_105, qX4_settle_106, qX4_settle_107, qX4_settle_108, qX4_settle_109, qX4_settle_112, qX4_settle_115, qX4_settle_116, qX4_settle_117, qX4_settle_120, qX4_settle_123, qX4_settle_124, t8, h1, if_false, i2, Option.toList, List.cons_append, List.nil_append]
    cases hch : chG A s l with
    | true =>
      simp only [chG, hch, Bool.true_or, bI, if_true, show ¬ (1 : Int32) = 0 by decide, if_false, qX4_settle_0, qX4_settle_1, qX4_settle_2, qX4_settle_5, qX4_settle_6, qX4_settle_8, qX4_settle_10, qX4_settle_13, qX4_settle_14, qX4_settle_17, qX4_settle_18, qX4_settle_19, qX4_settle_22, qX4_settle_25, qX4_settle_26, qX4_settle_28, qX4_settle_29, qX4_settle_33, qX4_settle_34a, qX4_settle_34b, qX4_settle_37, qX4_settle_40, qX4_settle_41, qX4_settle_42, qX4_settle_44, qX4_settle_45, qX4_settle_48, qX4_settle_50, qX4_settle_52, qX4_settle_55, qX4_settle_57, qX4_settle_58, qX4_settle_61, qX4_settle_63, qX4_settle_66, qX4_settle_69, qX4_settle_70, qX4_settle_73, qX4_settle_74, qX4_settle_76, qX4_settle_77, qX4_settle_80, qX4_settle_82, qX4_settle_84, qX4_settle_87, qX4_settle_90, qX4_settle_95, qX4_settle_98, qX4_settle_99, qX4_settle_100, qX4_settle_103, qX4_settle_104, qX4_settle_105, qX4_settle_106, qX4_settle_107, qX4_settle_108, qX4_settle_109, qX4_settle_112, qX4_settle_115, qX4_settle_116, qX4_settle_117, qX4_settle_120, qX4_settle_123, qX4_settle_124, s_put (show shC[27]? = some (.inl (.int, 7)) from rfl) (show 7 < 2 ^ 31 by decide), e0, hput, Option.toList, List.cons_append, List.nil_append, nI_1, or_true, true_and]
    | false =>
      simp only [chG, hch, Bool.false_or, bI, if_true, Bool.false_eq_true, if_false, qX4_settle_0, qX4_settle_1, qX4_settle_2, qX4_settle_5, qX4_settle_6, qX4_settle_8, qX4_settle_10, qX4_settle_13, qX4_settle_14, qX4_settle_17, qX4_settle_18, qX4_settle_19, qX4_settle_22, qX4_settle_25, qX4_settle_26, qX4_settle_28, qX4_settle_29, qX4_settle_33, qX4_settle_34a, qX4_settle_34b, qX4_settle_37, qX4_settle_40, qX4_settle_41, qX4_settle_42, qX4_settle_44, qX4_settle_45, qX4_settle_48, qX4_settle_50, qX4_settle_52, qX4_settle_55, qX4_settle_57, qX4_settle_58, qX4_settle_61, qX4_settle_63, qX4_settle_66, qX4_settle_69, qX4_settle_70, qX4_settle_73, qX4_settle_74, qX4_settle_76, qX4_settle_77, qX4_settle_80, qX4_settle_82, qX4_settle_84, qX4_settle_87, qX4_settle_90, qX4_settle_95, qX4_settle_98, qX4_settle_99, qX4_settle_100, qX4_settle_103, qX4_settle_104, qX4_settle_105, qX4_settle_106, qX4_settle_107, qX4_settle_108, qX4_settle_109, qX4_settle_112, qX4_settle_115, qX4_settle_116, qX4_settle_117, qX4_settle_120, qX4_settle_123, qX4_settle_124, s_at (show shC[27]? = some (.inl (.int, 7)) from rfl) (show 7 < 2 ^ 31 by decide), atF_in _ hl7 (show 7 < 2 ^ 31 by decide), e0, e1, Option.toList, List.cons_append, List.nil_append]
      by_cases e : nI (A (rdG A s l) l) = s l
      · have e' : decide (nI (A (rdG A s l) l) ≠ s l) = false := by simp [e]
        rw [if_pos e, e']
        simp only [qX4_settle_0, qX4_settle_1, qX4_settle_2, qX4_settle_5, qX4_settle_6, qX4_settle_8, qX4_settle_10, qX4_settle_13, qX4_settle_14, qX4_settle_17, qX4_settle_18, qX4_settle_19, qX4_settle_22, qX4_settle_25, qX4_settle_26, qX4_settle_28, qX4_settle_29, qX4_settle_33, qX4_settle_34a, qX4_settle_34b, qX4_settle_37, qX4_settle_40, qX4_settle_41, qX4_settle_42, qX4_settle_44, qX4_settle_45, qX4_settle_48, qX4_settle_50, qX4_settle_52, qX4_settle_55, qX4_settle_57, qX4_settle_58, qX4_settle_61, qX4_settle_63, qX4_settle_66, qX4_settle_69, qX4_settle_70, qX4_settle_73, qX4_settle_74, qX4_settle_76, qX4_settle_77, qX4_settle_80, qX4_settle_82, qX4_settle_84, qX4_settle_87, qX4_settle_90, qX4_settle_95, qX4_settle_98, qX4_settle_99, qX4_settle_100, qX4_settle_103, qX4_settle_104, qX4_settle_105, qX4_settle_106, qX4_settle_107, qX4_settle_108, qX4_settle_109, qX4_settle_112, qX4_settle_115, qX4_settle_116, qX4_settle_117, qX4_settle_120, qX4_settle_123, qX4_settle_124, s_put (show shC[27]? = some (.inl (.int, 7)) from rfl) (show 7 < 2 ^ 31 by decide), e0, hput, Option.toList, List.cons_append, List.nil_append, nI_1, true_or, true_and, Bool.false_eq_true, if_false]
      · have e' : decide (nI (A (rdG A s l) l) ≠ s l) = true := by simp [e]
        rw [if_neg e, e']
        simp only [qX4_settle_0, qX4_settle_1, qX4_settle_2, qX4_settle_5, qX4_settle_6, qX4_settle_8, qX4_settle_10, qX4_settle_13, qX4_settle_14, qX4_settle_17, qX4_settle_18, qX4_settle_19, qX4_settle_22, qX4_settle_25, qX4_settle_26, qX4_settle_28, qX4_settle_29, qX4_settle_33, qX4_settle_34a, qX4_settle_34b, qX4_settle_37, qX4_settle_40, qX4_settle_41, qX4_settle_42, qX4_settle_44, qX4_settle_45, qX4_settle_48, qX4_settle_50, qX4_settle_52, qX4_settle_55, qX4_settle_57, qX4_settle_58, qX4_settle_61, qX4_settle_63, qX4_settle_66, qX4_settle_69, qX4_settle_70, qX4_settle_73, qX4_settle_74, qX4_settle_76, qX4_settle_77, qX4_settle_80, qX4_settle_82, qX4_settle_84, qX4_settle_87, qX4_settle_90, qX4_settle_95, qX4_settle_98, qX4_settle_99, qX4_settle_100, qX4_settle_103, qX4_settle_104, qX4_settle_105, qX4_settle_106, qX4_settle_107, qX4_settle_108, qX4_settle_109, qX4_settle_112, qX4_settle_115, qX4_settle_116, qX4_settle_117, qX4_settle_120, qX4_settle_123, qX4_settle_124, s_put (show shC[27]? = some (.inl (.int, 7)) from rfl) (show 7 < 2 ^ 31 by decide), e0, hput, Option.toList, List.cons_append, List.nil_append, nI_1, or_true, true_and, if_true]
theorem settle_loop {σ : mm_M} {n c R : Nat} {s : Nat → Int32} (hB : okB σ n) (hc : c ≤ 99) (hs : ∀ i, i < n → rg (s i) 0 9) (hR : R ≤ 30) (hq : ∀ i, i < R → qG (abC (nI c) σ n) n s i = true) (hq2 : R < 30 → qG (abC (nI c) σ n) n s R = false) : ∀ (j r : Nat) (τ : mm_M) (a4 a5 a6 : Value), j + r = R → (∀ k, k < 26 ∨ 32 < k → τ.1 k = σ.1 k) → τ.1 27 = stG (abC (nI c) σ n) n s r → (∀ k, k < r → τ.1 32 k = pkF (stG (abC (nI c) σ n) n s k) 7) → ∃ (b : Int32) (τ' : mm_M), (∀ k, k < 26 ∨ 32 < k → τ'.1 k = σ.1 k) ∧ (R < 30 → b = 1 ∧ τ'.1 27 = stG (abC (nI c) σ n) n s R ∧ τ'.1 26 3 = nI R) ∧ (R = 30 → b = 0) ∧ ∀ (d : Nat) (P : mm_O), mm_at shC (d + 6) 35 [] P 7 [.ref 26, .ref 11, .int (nI c), .int (nI r), a4, a5, a6] [] τ = P (some (.int b)) τ' := by
  have hn := hB.1.2.1
  have hA9 : ∀ s l, abC (nI c) σ n s l ≤ 9 := fun s l => asG_le
  intro j
  induction j with
  | zero =>
    intro r τ a4 a5 a6 hr k1 k2 k3
    have hr : r = R := by omega
    subst hr
    by_cases h30 : r = 30
    · subst h30
      refine ⟨0, τ, k1, fun h => by omega, fun _ => rfl, fun d P => ?_⟩
      rw [qX4_settle_7]
      simp only [qX4_settle_0, qX4_settle_1, qX4_settle_2, qX4_settle_5, qX4_settle_6, qX4_settle_8, qX4_settle_10, qX4_settle_13, qX4_settle_14, qX4_settle_17, qX4_settle_18, qX4_settle_19, qX4_settle_22, qX4_settle_25, qX4_settle_26, qX4_settle_28, qX4_settle_29, qX4_settle_33, qX4_settle_34a, qX4_settle_34b, qX4_settle_37, qX4_settle_40, qX4_settle_41, qX4_settle_42, qX4_settle_44, qX4_settle_45, qX4_settle_48, qX4_settle_50, qX4_settle_52, qX4_settle_55, qX4_settle_57, qX4_settle_58, qX4_settle_61, qX4_settle_63, qX4_settle_66, qX4_settle_69, qX4_settle_70, qX4_settle_73, qX4_settle_74, qX4_settle_76, qX4_settle_77, qX4_settle_80, qX4_settle_82, qX4_settle_84, qX4_settle_87, qX4_settle_90, qX4_settle_93, qX4_settle_95, qX4_settle_98, qX4_settle_99, qX4_settle_100, qX4_settle_103, qX4_settle_104, qX4_settle_105, qX4_settle_106, qX4_settle_107, qX4_settle_108, qX4_settle_109, qX4_settle_112, qX4_settle_115, qX4_settle_116, qX4_settle_117, qX4_settle_120, qX4_settle_123, qX4_settle_124, show (30 : Int32) ≤ nI 30 by decide, if_true]
      simp
    · have hlt : r < 30 := by omega
      have h1 : ¬ (30 : Int32) ≤ nI r := show ¬ nI 30 ≤ nI r from nI_ge (by omega) (by decide)
      have hq2 := hq2 hlt
      have hput : putF (τ.1 32) 30 (nI r) (pkF (τ.1 27) 7) = upd (τ.1 32) r (pkF (τ.1 27) 7) := putF_in _ _ hlt (by decide)
      generalize hτ1 : mm_set τ 32 (upd (τ.1 32) r (pkF (τ.1 27) 7)) = τ1
      have e1 : ∀ k, k ≠ 32 → τ1.1 k = τ.1 k := fun k hk => by rw [← hτ1, mm_set_ne _ _ hk]
      have hBτ : okB τ1 n := hB.of (fun k hk => by rw [e1 k (by omega)]; exact k1 k (by omega))
      have hA : abC (nI c) τ1 n = abC (nI c) σ n := abC_of (fun k hk => by rw [e1 k (by omega)]; exact k1 k (by omega))
      obtain ⟨τ2, a6', i1, i2, i3⟩ := round_loop (σ := τ1) (r := r) (s := stG (abC (nI c) σ n) n s r) hBτ hc n 0 τ1 a6 (by omega) (fun _ _ => rfl) (by rw [e1 27 (by decide), k2]; rfl)
      rw [hA] at i2 i3
      have hch : chG (abC (nI c) σ n) (stG (abC (nI c) σ n) n s r) n = false := hq2
      refine ⟨1, mm_sti τ2 26 3 (nI r), fun k hk => ?_, fun _ => ⟨rfl, ?_, ?_⟩, fun h => by omega, fun d P => ?_⟩
      · rw [mm_sti_set, mm_set_ne _ _ (by omega), i1 k (by omega), e1 k (by omega)]; exact k1 k hk
      · rw [mm_sti_set, mm_set_ne _ _ (by decide), i2]; exact chG_no hch
      · rw [mm_sti_set, mm_set_same, upd_1, if_pos rfl]
      · rw [qX4_settle_7]
        simp only [qX4_settle_0, qX4_settle_1, qX4_settle_2, qX4_settle_5, qX4_settle_6, qX4_settle_8, qX4_settle_10, qX4_settle_13, qX4_settle_14, qX4_settle_17, qX4_settle_18, qX4_settle_19, qX4_settle_22, qX4_settle_25, qX4_settle_26, qX4_settle_28, qX4_settle_29, qX4_settle_33, qX4_settle_34a, qX4_settle_34b, qX4_settle_37, qX4_settle_40, qX4_settle_41, qX4_settle_42, qX4_settle_44, qX4_settle_45, qX4_settle_48, qX4_settle_50, qX4_settle_52, qX4_settle_55, qX4_settle_57, qX4_settle_58, qX4_settle_61, qX4_settle_63, qX4_settle_66, qX4_settle_69, qX4_settle_70, qX4_settle_73, qX4_settle_74, qX4_settle_76, qX4_settle_77, qX4_settle_80, qX4_settle_82, qX4_settle_84, qX4_settle_87, qX4_settle_90, qX4_settle_93, qX4_settle_95, qX4_settle_98, qX4_settle_99, qX4_settle_100, qX4_settle_103, qX4_settle_104, qX4_settle_105, qX4_settle_106, qX4_settle_107, qX4_settle_108, qX4_settle_109, qX4_settle_112, qX4_settle_115, qX4_settle_116, qX4_settle_117, qX4_settle_120, qX4_settle_123, qX4_settle_124, h1, if_false, s_packed, s_put (show shC[32]? = some (.inl (.int, 30)) from rfl) (show 30 < 2 ^ 31 by decide), hput, hτ1, Option.toList, List.cons_append, List.nil_append]
        refine Eq.trans (i3 d P) ?_
        rw [hch]
        simp only [bI, Bool.false_eq_true, if_false, qX4_settle_0, qX4_settle_1, qX4_settle_2, qX4_settle_5, qX4_settle_6, qX4_settle_8, qX4_settle_10, qX4_settle_13, qX4_settle_14, qX4_settle_17, qX4_settle_18, qX4_settle_19, qX4_settle_22, qX4_settle_25, qX4_settle_26, qX4_settle_28, qX4_settle_29, qX4_settle_33, qX4_settle_34a, qX4_settle_34b, qX4_settle_37, qX4_settle_40, qX4_settle_41, qX4_settle_42, qX4_settle_44, qX4_settle_45, qX4_settle_48, qX4_settle_50, qX4_settle_52, qX4_settle_55, qX4_settle_57, qX4_settle_58, qX4_settle_61, qX4_settle_63, qX4_settle_66, qX4_settle_69, qX4_settle_70, qX4_settle_73, qX4_settle_74, qX4_settle_76, qX4_settle_77, qX4_settle_80, qX4_settle_82, qX4_settle_84, qX4_settle_87, qX4_settle_90, qX4_settle_93, qX4_settle_95, qX4_settle_98, qX4_settle_99, qX4_settle_100, qX4_settle_103, qX4_settle_104, qX4_settle_105, qX4_settle_106, qX4_settle_107, qX4_settle_108, qX4_settle_109, qX4_settle_112, qX4_settle_115, qX4_settle_116, qX4_settle_117, qX4_settle_120, qX4_settle_123, qX4_settle_124, if_true]
        simp
  | succ j ih =>
    intro r τ a4 a5 a6 hr k1 k2 k3
    have hlt : r < R := by omega
    have h1 : ¬ (30 : Int32) ≤ nI r := show ¬ nI 30 ≤ nI r from nI_ge (by omega) (by decide)
    have hput : putF (τ.1 32) 30 (nI r) (pkF (τ.1 27) 7) = upd (τ.1 32) r (pkF (τ.1 27) 7) := putF_in _ _ (by omega) (by decide)
    generalize hτ1 : mm_set τ 32 (upd (τ.1 32) r (pkF (τ.1 27) 7)) = τ1
    have e1 : ∀ k, k ≠ 32 → τ1.1 k = τ.1 k := fun k hk => by rw [← hτ1, mm_set_ne _ _ hk]
    have e2 : ∀ k, k < r + 1 → τ1.1 32 k = pkF (stG (abC (nI c) σ n) n s k) 7 := fun k hk => by
      rw [← hτ1, mm_set_same, upd_1]
      by_cases e : k = r
      · subst e; rw [if_pos rfl, k2]
      · rw [if_neg e]; exact k3 k (by omega)
    have hBτ : okB τ1 n := hB.of (fun k hk => by rw [e1 k (by omega)]; exact k1 k (by omega))
    have hA : abC (nI c) τ1 n = abC (nI c) σ n := abC_of (fun k hk => by rw [e1 k (by omega)]; exact k1 k (by omega))
    obtain ⟨τ2, a6', i1, i2, i3⟩ := round_loop (σ := τ1) (r := r) (s := stG (abC (nI c) σ n) n s r) hBτ hc n 0 τ1 a6 (by omega) (fun _ _ => rfl) (by rw [e1 27 (by decide), k2]; rfl)
    rw [hA] at i2 i3
    have hch : chG (abC (nI c) σ n) (stG (abC (nI c) σ n) n s r) n = true := hq r hlt
    have e27 : τ2.1 27 = stG (abC (nI c) σ n) n s (r + 1) := i2
    have e32 : ∀ k, k < r + 1 → τ2.1 32 k = pkF (stG (abC (nI c) σ n) n s k) 7 := fun k hk => by rw [i1 32 (by omega)]; exact e2 k hk
    have eo : ∀ k, k < 26 ∨ 32 < k → τ2.1 k = σ.1 k := fun k hk => by rw [i1 k (by omega), e1 k (by omega)]; exact k1 k hk
    obtain ⟨b, b1, b2⟩ := s_wasSeen (σ := τ2) (m := r + 1) (by omega)
    have pre : ∀ (d : Nat) (P : mm_O), mm_at shC (d + 6) 35 [] P 7 [.ref 26, .ref 11, .int (nI c), .int (nI r), a4, a5, a6] [] τ = mm_at shC (d + 6) 35 [] P 112 [.ref 26, .ref 11, .int (nI c), .int (nI r), .int 1, .int (nI n), a6'] [.int (bI b)] τ2 := fun d P => by
      rw [qX4_settle_7]
      simp only [qX4_settle_0, qX4_settle_1, qX4_settle_2, qX4_settle_5, qX4_settle_6, qX4_settle_8, qX4_settle_10, qX4_settle_13, qX4_settle_14, qX4_settle_17, qX4_settle_18, qX4_settle_19, qX4_settle_22, qX4_settle_25, qX4_settle_26, qX4_settle_28, qX4_settle_29, qX4_settle_33, qX4_settle_34a, qX4_settle_34b, qX4_settle_37, qX4_settle_40, qX4_settle_41, qX4_settle_42, qX4_settle_44, qX4_settle_45, qX4_settle_48, qX4_settle_50, qX4_settle_52, qX4_settle_55, qX4_settle_57, qX4_settle_58, qX4_settle_61, qX4_settle_63, qX4_settle_66, qX4_settle_69, qX4_settle_70, qX4_settle_73, qX4_settle_74, qX4_settle_76, qX4_settle_77, qX4_settle_80, qX4_settle_82, qX4_settle_84, qX4_settle_87, qX4_settle_90, qX4_settle_93, qX4_settle_95, qX4_settle_98, qX4_settle_99, qX4_settle_100, qX4_settle_103, qX4_settle_104, qX4_settle_105, qX4_settle_106, qX4_settle_107, qX4_settle_108, qX4_settle_109, qX4_settle_115, qX4_settle_116, qX4_settle_117, qX4_settle_120, qX4_settle_123, qX4_settle_124, h1, if_false, s_packed, s_put (show shC[32]? = some (.inl (.int, 30)) from rfl) (show 30 < 2 ^ 31 by decide), hput, hτ1, Option.toList, List.cons_append, List.nil_append]
      refine Eq.trans (i3 d P) ?_
      rw [hch]
      simp only [bI, if_true, show ¬ (1 : Int32) = 0 by decide, if_false, qX4_settle_0, qX4_settle_1, qX4_settle_2, qX4_settle_5, qX4_settle_6, qX4_settle_8, qX4_settle_10, qX4_settle_13, qX4_settle_14, qX4_settle_17, qX4_settle_18, qX4_settle_19, qX4_settle_22, qX4_settle_25, qX4_settle_26, qX4_settle_28, qX4_settle_29, qX4_settle_33, qX4_settle_34a, qX4_settle_34b, qX4_settle_37, qX4_settle_40, qX4_settle_41, qX4_settle_42, qX4_settle_44, qX4_settle_45, qX4_settle_48, qX4_settle_50, qX4_settle_52, qX4_settle_55, qX4_settle_57, qX4_settle_58, qX4_settle_61, qX4_settle_63, qX4_settle_66, qX4_settle_69, qX4_settle_70, qX4_settle_73, qX4_settle_74, qX4_settle_76, qX4_settle_77, qX4_settle_80, qX4_settle_82, qX4_settle_84, qX4_settle_87, qX4_settle_90, qX4_settle_93, qX4_settle_95, qX4_settle_98, qX4_settle_99, qX4_settle_100, qX4_settle_103, qX4_settle_104, qX4_settle_105, qX4_settle_106, qX4_settle_107, qX4_settle_108, qX4_settle_109, qX4_settle_115, qX4_settle_116, qX4_settle_117, qX4_settle_120, qX4_settle_123, qX4_settle_124, nI_1, b2, Option.toList, List.cons_append, List.nil_append]
    cases b with
    | true =>
      obtain ⟨i, hi, ei⟩ := b1 rfl
      rw [e32 i hi, e27] at ei
      have es := pk_inj hn (stG_b hA9 hs i) (stG_b hA9 hs (r + 1)) (fun q hq => by rw [stG_o hq, stG_o hq]) ei
      have hall := qG_per (show i ≤ r by omega) es.symm (fun m hm => hq m (by omega))
      refine ⟨0, τ2, eo, fun h => ?_, fun _ => rfl, fun d P => ?_⟩
      · exact absurd (hall R) (by rw [hq2 h]; decide)
      · rw [pre]
        simp only [bI, if_true, show ¬ (1 : Int32) = 0 by decide, if_false, qX4_settle_0, qX4_settle_1, qX4_settle_2, qX4_settle_5, qX4_settle_6, qX4_settle_8, qX4_settle_10, qX4_settle_13, qX4_settle_14, qX4_settle_17, qX4_settle_18, qX4_settle_19, qX4_settle_22, qX4_settle_25, qX4_settle_26, qX4_settle_28, qX4_settle_29, qX4_settle_33, qX4_settle_34a, qX4_settle_34b, qX4_settle_37, qX4_settle_40, qX4_settle_41, qX4_settle_42, qX4_settle_44, qX4_settle_45, qX4_settle_48, qX4_settle_50, qX4_settle_52, qX4_settle_55, qX4_settle_57, qX4_settle_58, qX4_settle_61, qX4_settle_63, qX4_settle_66, qX4_settle_69, qX4_settle_70, qX4_settle_73, qX4_settle_74, qX4_settle_76, qX4_settle_77, qX4_settle_80, qX4_settle_82, qX4_settle_84, qX4_settle_87, qX4_settle_90, qX4_settle_93, qX4_settle_95, qX4_settle_98, qX4_settle_99, qX4_settle_100, qX4_settle_103, qX4_settle_104, qX4_settle_105, qX4_settle_106, qX4_settle_107, qX4_settle_108, qX4_settle_109, qX4_settle_112, qX4_settle_115, qX4_settle_116, qX4_settle_117, qX4_settle_120, qX4_settle_123, qX4_settle_124]
        simp
    | false =>
      obtain ⟨b', τ', j1, j2, j3, j4⟩ := ih (r + 1) τ2 (.int 1) (.int (nI n)) a6' (by omega) eo e27 e32
      refine ⟨b', τ', j1, j2, j3, fun d P => ?_⟩
      rw [← j4 d P, pre]
      simp only [bI, Bool.false_eq_true, if_false, if_true, qX4_settle_0, qX4_settle_1, qX4_settle_2, qX4_settle_5, qX4_settle_6, qX4_settle_8, qX4_settle_10, qX4_settle_13, qX4_settle_14, qX4_settle_17, qX4_settle_18, qX4_settle_19, qX4_settle_22, qX4_settle_25, qX4_settle_26, qX4_settle_28, qX4_settle_29, qX4_settle_33, qX4_settle_34a, qX4_settle_34b, qX4_settle_37, qX4_settle_40, qX4_settle_41, qX4_settle_42, qX4_settle_44, qX4_settle_45, qX4_settle_48, qX4_settle_50, qX4_settle_52, qX4_settle_55, qX4_settle_57, qX4_settle_58, qX4_settle_61, qX4_settle_63, qX4_settle_66, qX4_settle_69, qX4_settle_70, qX4_settle_73, qX4_settle_74, qX4_settle_76, qX4_settle_77, qX4_settle_80, qX4_settle_82, qX4_settle_84, qX4_settle_87, qX4_settle_90, qX4_settle_93, qX4_settle_95, qX4_settle_98, qX4_settle_99, qX4_settle_100, qX4_settle_103, qX4_settle_104, qX4_settle_105, qX4_settle_106, qX4_settle_107, qX4_settle_108, qX4_settle_109, qX4_settle_112, qX4_settle_115, qX4_settle_116, qX4_settle_117, qX4_settle_120, qX4_settle_123, qX4_settle_124, nI_1]
def s27 (σ : mm_M) : Nat → Int32 := fun i => if i < 7 then σ.1 18 i else σ.1 27 i
theorem s_settle {σ : mm_M} {n c R : Nat} (hB : okB σ n) (hc : c ≤ 99) (hs : ∀ i, i < n → rg (σ.1 18 i) 0 9) (hR : R ≤ 30) (hq : ∀ i, i < R → qG (abC (nI c) σ n) n (s27 σ) i = true) (hq2 : R < 30 → qG (abC (nI c) σ n) n (s27 σ) R = false) : ∃ (b : Int32) (τ' : mm_M), (∀ k, k < 26 ∨ 32 < k → τ'.1 k = σ.1 k) ∧ (R < 30 → b = 1 ∧ τ'.1 27 = stG (abC (nI c) σ n) n (s27 σ) R ∧ τ'.1 26 3 = nI R) ∧ (R = 30 → b = 0) ∧ ∀ (d : Nat) (P : mm_O), mm_run shC (d + 7) 35 [.ref 26, .ref 11, .int (nI c)] σ P = P (some (.int b)) τ' := by
  have hn := hB.1.2.1
  have f0 := fun (d : Nat) (P : mm_O) => s_copyRow (d := d) (P := P) (σ := σ) (a := 18) (b := 27) (n := 7) rfl rfl (by decide) (by decide)
  generalize hτ : mm_set σ 27 (fun i => if i < 7 then σ.1 18 i else σ.1 27 i) = τ
  have e1 : ∀ k, k ≠ 26 → k ≠ 27 → τ.1 k = σ.1 k := fun k a b => by rw [← hτ]; simp [mm_sti_set, mm_set_1, a, b]
  have e2 : τ.1 27 = s27 σ := by rw [← hτ]; simp [mm_sti_set, mm_set_1]; rfl
  obtain ⟨b, τ', i1, i2, i3, i4⟩ := settle_loop (s := s27 σ) hB hc (fun i hi => by unfold s27; rw [if_pos (by omega)]; exact hs i hi) hR hq hq2 R 0 τ .null .null .null (by omega) (fun k hk => e1 k (by omega) (by omega)) e2 (fun k hk => by omega)
  refine ⟨b, τ', i1, i2, i3, fun d P => ?_⟩
  rw [← i4 d P, in_X4_settle]
  simp only [qX4_settle_0, qX4_settle_1, qX4_settle_2, qX4_settle_5, qX4_settle_6, qX4_settle_8, qX4_settle_10, qX4_settle_13, qX4_settle_14, qX4_settle_17, qX4_settle_18, qX4_settle_19, qX4_settle_22, qX4_settle_25, qX4_settle_26, qX4_settle_28, qX4_settle_29, qX4_settle_33, qX4_settle_34a, qX4_settle_34b, qX4_settle_37, qX4_settle_40, qX4_settle_41, qX4_settle_42, qX4_settle_44, qX4_settle_45, qX4_settle_48, qX4_settle_50, qX4_settle_52, qX4_settle_55, qX4_settle_57, qX4_settle_58, qX4_settle_61, qX4_settle_63, qX4_settle_66, qX4_settle_69, qX4_settle_70, qX4_settle_73, qX4_settle_74, qX4_settle_76, qX4_settle_77, qX4_settle_80, qX4_settle_82, qX4_settle_84, qX4_settle_87, qX4_settle_90, qX4_settle_93, qX4_settle_95, qX4_settle_98, qX4_settle_99, qX4_settle_100, qX4_settle_103, qX4_settle_104, qX4_settle_105, qX4_settle_106, qX4_settle_107, qX4_settle_108, qX4_settle_109, qX4_settle_112, qX4_settle_115, qX4_settle_116, qX4_settle_117, qX4_settle_120, qX4_settle_123, qX4_settle_124]
  rw [in_X4_begin]
  simp only [qX4_begin_0, qX4_begin_1a, qX4_begin_1b, qX4_begin_4, qX4_begin_5, qX4_begin_8, qX4_begin_11, qX4_settle_0, qX4_settle_1, qX4_settle_2, qX4_settle_5, qX4_settle_6, qX4_settle_8, qX4_settle_10, qX4_settle_13, qX4_settle_14, qX4_settle_17, qX4_settle_18, qX4_settle_19, qX4_settle_22, qX4_settle_25, qX4_settle_26, qX4_settle_28, qX4_settle_29, qX4_settle_33, qX4_settle_34a, qX4_settle_34b, qX4_settle_37, qX4_settle_40, qX4_settle_41, qX4_settle_42, qX4_settle_44, qX4_settle_45, qX4_settle_48, qX4_settle_50, qX4_settle_52, qX4_settle_55, qX4_settle_57, qX4_settle_58, qX4_settle_61, qX4_settle_63, qX4_settle_66, qX4_settle_69, qX4_settle_70, qX4_settle_73, qX4_settle_74, qX4_settle_76, qX4_settle_77, qX4_settle_80, qX4_settle_82, qX4_settle_84, qX4_settle_87, qX4_settle_90, qX4_settle_93, qX4_settle_95, qX4_settle_98, qX4_settle_99, qX4_settle_100, qX4_settle_103, qX4_settle_104, qX4_settle_105, qX4_settle_106, qX4_settle_107, qX4_settle_108, qX4_settle_109, qX4_settle_112, qX4_settle_115, qX4_settle_116, qX4_settle_117, qX4_settle_120, qX4_settle_123, qX4_settle_124, f0, hτ, Option.toList, List.cons_append, List.nil_append]
  rfl
