/-! THE CLASS's search, through -/
section EXT
variable {σ μ : mm_M} {n np : Nat}
theorem extend_run (h1 : TwR σ μ n np) (b : Bool) : ∀ (h k : Nat) (f : Nat → Nat) (s : Option (Nat × Nat × Nat)) (τ : mm_M) (x : Int32), k + h = n → (∀ i, i < k → f i < n) → (∀ i j, i < k → j < k → f i = f j → i = j) → (∀ i, i < k → τ.1 24 i = nI (f i)) → FrS σ τ → RC n b s τ → okS s → (∀ l, l < 31 → (bt x l = true ↔ ∃ i, i < k ∧ f i = l)) → ∃ τ' : mm_M, FrS σ τ' ∧ RC n b (sch_E n (WK σ) (FS σ n) (DU σ) b h k f s) τ' ∧ okS (sch_E n (WK σ) (FS σ n) (DU σ) b h k f s) ∧ (∀ i, i < k → τ'.1 24 i = nI (f i)) ∧ ∀ (d : Nat) (P : mm_O), mm_run shC (d + 2 * h + 4) 27 [.ref 23, .ref 11, .int (nI k), .int x, .int (nI (WK σ f k))] τ P = P none τ' := by
  have hn := h1.2.1.2.2
  intro h
  induction h with
  | zero =>
    intro k f s τ x hk hf hi hrow hfr hr hok hx
    have hk : k = n := by omega
    subst hk
    obtain ⟨τ', i1, i2, i3, i4, i5⟩ := consider_run h1 b hf hrow hfr hr hok
    refine ⟨τ', i1, i2, i3, fun i hi => by rw [i4]; exact hrow i hi, fun d P => ?_⟩
    have k11 : τ.1 11 8 = nI k := by rw [hfr 11 (by decide) (by decide) (by decide)]; exact h1.2.1.1
    show mm_run shC (d + 3 + 1) _ _ _ _ = _
    rw [in_X3_extend]
    simp only [qX3_extend_0, qX3_extend_1, qX3_extend_2a, qX3_extend_2b, qX3_extend_5, qX3_extend_8, qX3_extend_9, qX3_extend_11, qX3_extend_14, qX3_extend_15, qX3_extend_16, qX3_extend_18, qX3_extend_21, qX3_extend_22, qX3_extend_23, qX3_extend_27, qX3_extend_28a, qX3_extend_28b, qX3_extend_31, qX3_extend_34, qX3_extend_35, qX3_extend_37, qX3_extend_40, qX3_extend_43, qX3_extend_44, qX3_extend_45, qX3_extend_47, qX3_extend_48, qX3_extend_49, qX3_extend_51, qX3_extend_54, qX3_extend_57, qX3_extend_60, k11, show nI k ≤ nI k from Int32.le_refl _, if_true, i5, Option.toList, List.nil_append]
  | succ h ih =>
    intro k f s τ x hk hf hi hrow hfr hr hok hx
    -- one letter
    have one : ∀ (l : Nat) (s : Option (Nat × Nat × Nat)) (τ : mm_M), l < n → (∀ i, i < k → τ.1 24 i = nI (f i)) → FrS σ τ → RC n b s τ → okS s → ¬ (∃ i, i < k ∧ f i = l) → ∃ τ' : mm_M, FrS σ τ' ∧ RC n b (cite (sch_may (DU σ) b s l (WK σ (updN f k l) (k + 1))) (sch_E n (WK σ) (FS σ n) (DU σ) b h (k + 1) (updN f k l) s) s) τ' ∧ okS (cite (sch_may (DU σ) b s l (WK σ (updN f k l) (k + 1))) (sch_E n (WK σ) (FS σ n) (DU σ) b h (k + 1) (updN f k l) s) s) ∧ (∀ i, i < k → τ'.1 24 i = nI (f i)) ∧ ∀ (d : Nat) (P : mm_O), mm_run shC (d + 2 * h + 4 + 1) 28 [.ref 23, .ref 11, .int (nI l), .int (nI k), .int x, .int (nI (WK σ f k))] τ P = P none τ' := by
      intro l s τ hl hrow hfr hr hok hin
      have old : ∀ i, i < k → updN f k l i = f i := fun i hi => by unfold updN; rw [if_neg (by omega)]
      have new : updN f k l k = l := by unfold updN; rw [if_pos rfl]
      have hf' : ∀ i, i < k + 1 → updN f k l i < n := fun i hi => by
        by_cases e : i = k
        · rw [e, new]; exact hl
        · rw [old i (by omega)]; exact hf i (by omega)
      have hi' : ∀ i j, i < k + 1 → j < k + 1 → updN f k l i = updN f k l j → i = j := fun i j hi1 hj1 e => by
        by_cases e1 : i = k
        · by_cases e2 : j = k
          · omega
          · rw [e1, new, old j (by omega)] at e
            exact absurd ⟨j, by omega, e.symm⟩ hin
        · by_cases e2 : j = k
          · rw [e2, new, old i (by omega)] at e
            exact absurd ⟨i, by omega, e⟩ hin
          · rw [old i (by omega), old j (by omega)] at e
            exact hi i j (by omega) (by omega) e
      -- the minutes
      have wb := (h1.wl (k + 1) hf').2
      have hpl : plcF (glF (σ.1 14)) f k < 7 ∧ plcF (glF (σ.1 14)) f k = plcF (glF (σ.1 14)) (updN f k l) k := by
        have hnp := h1.1.2.2
        cases k with
        | zero => exact ⟨by show 0 < 7; decide, rfl⟩
        | succ k =>
          refine ⟨?_, ?_⟩
          · have := (h1.gl (hf k (by omega))).2.1
            show glF (σ.1 14) (f k) < 7
            omega
          · show glF (σ.1 14) (f k) = glF (σ.1 14) (updN f (k + 1) l k)
            rw [old k (by omega)]
      have gl := h1.gl hl
      have hg7 : glF (σ.1 14) l < 7 := by have := h1.1.2.2; omega
      have k11 : τ.1 11 = σ.1 11 := hfr 11 (by decide) (by decide) (by decide)
      have k12 : τ.1 12 = σ.1 12 := hfr 12 (by decide) (by decide) (by decide)
      have k13 : τ.1 13 = σ.1 13 := hfr 13 (by decide) (by decide) (by decide)
      have k14 : τ.1 14 = σ.1 14 := hfr 14 (by decide) (by decide) (by decide)
      have ap := fun (d : Nat) (P : mm_O) => s_apart_n (d := d) (P := P) (σ := τ) (p := plcF (glF (σ.1 14)) f k) (q := glF (σ.1 14) l) hpl.1 hg7
      rw [k12, k13] at ap
      have hcm : nI (WK σ f k) + dstF (σ.1 12) (σ.1 13) (plcF (glF (σ.1 14)) f k) (glF (σ.1 14) l) = nI (WK σ (updN f k l) (k + 1)) := by
        have e := (h1.wl (k + 1) hf').1
        rw [← e]
        show _ = wlkF _ _ _ (updN f k l) k + dstF _ _ (plcF _ (updN f k l) k) (glF _ (updN f k l k))
        rw [new, ← hpl.2, (h1.wl k (fun i hi => hf' i (by omega))).1, show WK σ (updN f k l) k = WK σ f k from wkN_congr k old]
      obtain ⟨y, hy, my⟩ := mayLead_run h1 b (c := WK σ (updN f k l) (k + 1)) hl (by omega) hfr hr hok
      have pre : ∀ (d : Nat) (P : mm_O), mm_run shC (d + 2 * h + 4 + 1) 28 [.ref 23, .ref 11, .int (nI l), .int (nI k), .int x, .int (nI (WK σ f k))] τ P = mm_at shC (d + 2 * h + 4) 28 [] P 54 [.ref 23, .ref 11, .int (nI l), .int (nI k), .int x, .int (nI (WK σ f k)), .int (nI (plcF (glF (σ.1 14)) f k)), .int (nI (WK σ (updN f k l) (k + 1)))] [.int y] τ := fun d P => by
        rw [in_X3_append]
        cases k with
        | zero =>
          have hcm0 : nI (WK σ f 0) + dstF (σ.1 12) (σ.1 13) 0 (glF (σ.1 14) l) = nI (WK σ (updN f 0 l) (0 + 1)) := hcm
          have ap0 : ∀ (d : Nat) (P : mm_O), mm_run shC (d + 2) 40 [.ref 11, .int 0, .int (nI (glF (σ.1 14) l))] τ P = P (some (.int (dstF (σ.1 12) (σ.1 13) 0 (glF (σ.1 14) l)))) τ := ap
          simp only [qX3_append_0, qX3_append_1, qX3_append_4, qX3_append_5, qX3_append_8, qX3_append_9a, qX3_append_9b, qX3_append_12, qX3_append_13, qX3_append_16, qX3_append_17, qX3_append_18, qX3_append_19, qX3_append_22, qX3_append_25, qX3_append_27, qX3_append_29, qX3_append_30, qX3_append_32, qX3_append_33a, qX3_append_33b, qX3_append_36, qX3_append_37, qX3_append_40a, qX3_append_40b, qX3_append_43, qX3_append_44, qX3_append_46, qX3_append_47, qX3_append_48, qX3_append_49, qX3_append_51, qX3_append_57, qX3_append_58, qX3_append_61, qX3_append_62, qX3_append_63, qX3_append_66, qX3_append_67, qX3_append_68, qX3_append_69, qX3_append_70, qX3_append_71, qX3_append_73, qX3_append_74, qX3_append_75, qX3_append_76, qX3_append_77, qX3_append_79, qX3_append_82, show nI 0 = 0 from rfl, if_true, s_at_14, k14, atF_in _ (show l < 7 by omega) (show 7 < 2 ^ 31 by decide), gl.1, ap0, hcm0, my, Option.toList, List.cons_append, List.nil_append]
          rfl
        | succ k =>
          have hk0 : ¬ nI (k + 1) = 0 := nI_ne0 (by omega) (by omega)
          have hr1 : τ.1 24 k = nI (f k) := hrow k (by omega)
          have hg1 := (h1.gl (hf k (by omega))).1
          have ap1 : ∀ (d : Nat) (P : mm_O), mm_run shC (d + 2) 40 [.ref 11, .int (nI (glF (σ.1 14) (f k))), .int (nI (glF (σ.1 14) l))] τ P = P (some (.int (dstF (σ.1 12) (σ.1 13) (glF (σ.1 14) (f k)) (glF (σ.1 14) l)))) τ := ap
          have hcm1 : nI (WK σ f (k + 1)) + dstF (σ.1 12) (σ.1 13) (glF (σ.1 14) (f k)) (glF (σ.1 14) l) = nI (WK σ (updN f (k + 1) l) (k + 1 + 1)) := hcm
          simp only [qX3_append_0, qX3_append_1, qX3_append_4, qX3_append_5, qX3_append_8, qX3_append_9a, qX3_append_9b, qX3_append_12, qX3_append_13, qX3_append_16, qX3_append_17, qX3_append_18, qX3_append_19, qX3_append_22, qX3_append_25, qX3_append_27, qX3_append_29, qX3_append_30, qX3_append_32, qX3_append_33a, qX3_append_33b, qX3_append_36, qX3_append_37, qX3_append_40a, qX3_append_40b, qX3_append_43, qX3_append_44, qX3_append_46, qX3_append_47, qX3_append_48, qX3_append_49, qX3_append_51, qX3_append_57, qX3_append_58, qX3_append_61, qX3_append_62, qX3_append_63, qX3_append_66, qX3_append_67, qX3_append_68, qX3_append_69, qX3_append_70, qX3_append_71, qX3_append_73, qX3_append_74, qX3_append_75, qX3_append_76, qX3_append_77, qX3_append_79, qX3_append_82, hk0, if_false, show nI (k + 1) - 1 = nI k from nI_sub (b := 1) (by omega), s_at_24, s_at_14, k14, atF_in _ (show k < 7 by omega) (show 7 < 2 ^ 31 by decide), hr1, atF_in _ (show f k < 7 by have := hf k (by omega); omega) (show 7 < 2 ^ 31 by decide), hg1, atF_in _ (show l < 7 by omega) (show 7 < 2 ^ 31 by decide), gl.1, ap1, hcm1, my, Option.toList, List.cons_append, List.nil_append]
          rfl
      rcases hy with ⟨hy, hm⟩ | ⟨hy, hm⟩
      · rw [cite_pos hm]
        have hput : putF (τ.1 24) 7 (nI k) (nI l) = upd (τ.1 24) k (nI l) := putF_in _ _ (by omega) (by decide)
        generalize hτ1 : mm_set τ 24 (upd (τ.1 24) k (nI l)) = τ1
        have e1 : ∀ c, c ≠ 24 → τ1.1 c = τ.1 c := fun c hc => by rw [← hτ1, mm_set_ne _ _ hc]
        have hrow1 : ∀ i, i < k + 1 → τ1.1 24 i = nI (updN f k l i) := fun i hi => by
          rw [← hτ1, mm_set_same, upd_1]
          by_cases e : i = k
          · rw [if_pos e, e, new]
          · rw [if_neg e, old i (by omega)]; exact hrow i (by omega)
        have hr1 : RC n b s τ1 := by
          unfold RC
          rw [e1 23 (by decide), e1 25 (by decide)]
          exact hr
        obtain ⟨τ', j1, j2, j3, j4, j5⟩ := ih (k + 1) (updN f k l) s τ1 (x ||| ((1 : Int32) <<< (nI l &&& 31))) (by omega) hf' hi' hrow1 (fun c a b d => by rw [e1 c b]; exact hfr c a b d) hr1 hok (fun q hq => by
          rw [m_set (by omega) (by omega), Bool.or_eq_true, hx q hq, decide_eq_true_eq]
          constructor
          · rintro (⟨i, hi1, e⟩ | e)
            · exact ⟨i, by omega, by rw [old i hi1]; exact e⟩
            · exact ⟨k, by omega, by rw [new]; exact e.symm⟩
          · rintro ⟨i, hi1, e⟩
            by_cases e2 : i = k
            · rw [e2, new] at e; exact Or.inr e.symm
            · rw [old i (by omega)] at e; exact Or.inl ⟨i, by omega, e⟩)
        refine ⟨τ', j1, j2, j3, fun i hi => by rw [j4 i (by omega), old i hi], fun d P => ?_⟩
        rw [pre, hy]
        simp only [qX3_append_0, qX3_append_1, qX3_append_4, qX3_append_5, qX3_append_8, qX3_append_9a, qX3_append_9b, qX3_append_12, qX3_append_13, qX3_append_16, qX3_append_17, qX3_append_18, qX3_append_19, qX3_append_22, qX3_append_25, qX3_append_27, qX3_append_29, qX3_append_30, qX3_append_32, qX3_append_33a, qX3_append_33b, qX3_append_36, qX3_append_37, qX3_append_40a, qX3_append_40b, qX3_append_43, qX3_append_44, qX3_append_46, qX3_append_47, qX3_append_48, qX3_append_49, qX3_append_51, qX3_append_54, qX3_append_57, qX3_append_58, qX3_append_61, qX3_append_62, qX3_append_63, qX3_append_66, qX3_append_67, qX3_append_68, qX3_append_69, qX3_append_70, qX3_append_71, qX3_append_73, qX3_append_74, qX3_append_75, qX3_append_76, qX3_append_77, qX3_append_79, qX3_append_82, show ¬ (1 : Int32) = 0 by decide, if_false, s_put_24, hput, hτ1, nI_1, j5, Option.toList, List.cons_append, List.nil_append]
      · rw [cite_neg hm]
        refine ⟨τ, hfr, hr, hok, hrow, fun d P => ?_⟩
        rw [pre, hy]
        simp only [qX3_append_0, qX3_append_1, qX3_append_4, qX3_append_5, qX3_append_8, qX3_append_9a, qX3_append_9b, qX3_append_12, qX3_append_13, qX3_append_16, qX3_append_17, qX3_append_18, qX3_append_19, qX3_append_22, qX3_append_25, qX3_append_27, qX3_append_29, qX3_append_30, qX3_append_32, qX3_append_33a, qX3_append_33b, qX3_append_36, qX3_append_37, qX3_append_40a, qX3_append_40b, qX3_append_43, qX3_append_44, qX3_append_46, qX3_append_47, qX3_append_48, qX3_append_49, qX3_append_51, qX3_append_54, qX3_append_57, qX3_append_58, qX3_append_61, qX3_append_62, qX3_append_63, qX3_append_66, qX3_append_67, qX3_append_68, qX3_append_69, qX3_append_70, qX3_append_71, qX3_append_73, qX3_append_74, qX3_append_75, qX3_append_76, qX3_append_77, qX3_append_79, qX3_append_82, if_true]
    -- all letters
    have lp : ∀ (j l : Nat) (τ : mm_M), j + l = n → (∀ i, i < k → τ.1 24 i = nI (f i)) → FrS σ τ → RC n b (foldL (fun l s => cite (∃ i, i < k ∧ f i = l) s (cite (sch_may (DU σ) b s l (WK σ (updN f k l) (k + 1))) (sch_E n (WK σ) (FS σ n) (DU σ) b h (k + 1) (updN f k l) s) s)) l s) τ → okS (foldL (fun l s => cite (∃ i, i < k ∧ f i = l) s (cite (sch_may (DU σ) b s l (WK σ (updN f k l) (k + 1))) (sch_E n (WK σ) (FS σ n) (DU σ) b h (k + 1) (updN f k l) s) s)) l s) → ∃ τ' : mm_M, FrS σ τ' ∧ RC n b (foldL (fun l s => cite (∃ i, i < k ∧ f i = l) s (cite (sch_may (DU σ) b s l (WK σ (updN f k l) (k + 1))) (sch_E n (WK σ) (FS σ n) (DU σ) b h (k + 1) (updN f k l) s) s)) n s) τ' ∧ okS (foldL (fun l s => cite (∃ i, i < k ∧ f i = l) s (cite (sch_may (DU σ) b s l (WK σ (updN f k l) (k + 1))) (sch_E n (WK σ) (FS σ n) (DU σ) b h (k + 1) (updN f k l) s) s)) n s) ∧ (∀ i, i < k → τ'.1 24 i = nI (f i)) ∧ ∀ (d : Nat) (P : mm_O), mm_at shC (d + 2 * h + 4 + 1) 27 [] P 25 [.ref 23, .ref 11, .int (nI k), .int x, .int (nI (WK σ f k)), .int (nI l)] [] τ = P none τ' := by
      intro j
      induction j with
      | zero =>
        intro l τ hl hrow hfr hr hok
        have hl : l = n := by omega
        subst hl
        refine ⟨τ, hfr, hr, hok, hrow, fun d P => ?_⟩
        have k11 : τ.1 11 8 = nI l := by rw [hfr 11 (by decide) (by decide) (by decide)]; exact h1.2.1.1
        rw [qX3_extend_25]
        simp only [qX3_extend_0, qX3_extend_1, qX3_extend_2a, qX3_extend_2b, qX3_extend_5, qX3_extend_8, qX3_extend_9, qX3_extend_11, qX3_extend_14, qX3_extend_15, qX3_extend_16, qX3_extend_18, qX3_extend_21, qX3_extend_22, qX3_extend_23, qX3_extend_27, qX3_extend_28a, qX3_extend_28b, qX3_extend_31, qX3_extend_34, qX3_extend_35, qX3_extend_37, qX3_extend_40, qX3_extend_43, qX3_extend_44, qX3_extend_45, qX3_extend_47, qX3_extend_48, qX3_extend_49, qX3_extend_51, qX3_extend_54, qX3_extend_57, qX3_extend_60, k11, show nI l ≤ nI l from Int32.le_refl _, if_true]
      | succ j ihj =>
        intro l τ hl hrow hfr hr hok
        have k11 : τ.1 11 8 = nI n := by rw [hfr 11 (by decide) (by decide) (by decide)]; exact h1.2.1.1
        have hle : ¬ nI n ≤ nI l := nI_ge (by omega) (by omega)
        by_cases hin : ∃ i, i < k ∧ f i = l
        · have hbt : bt x l = true := (hx l (by omega)).mpr hin
          have e : ∀ s, foldL (fun l s => cite (∃ i, i < k ∧ f i = l) s (cite (sch_may (DU σ) b s l (WK σ (updN f k l) (k + 1))) (sch_E n (WK σ) (FS σ n) (DU σ) b h (k + 1) (updN f k l) s) s)) (l + 1) s = foldL (fun l s => cite (∃ i, i < k ∧ f i = l) s (cite (sch_may (DU σ) b s l (WK σ (updN f k l) (k + 1))) (sch_E n (WK σ) (FS σ n) (DU σ) b h (k + 1) (updN f k l) s) s)) l s := fun s => cite_pos hin
          obtain ⟨τ', i1, i2, i3, i4, i5⟩ := ihj (l + 1) τ (by omega) hrow hfr (by rw [e]; exact hr) (by rw [e]; exact hok)
          refine ⟨τ', i1, i2, i3, i4, fun d P => ?_⟩
          rw [← i5 d P, qX3_extend_25]
          simp only [qX3_extend_0, qX3_extend_1, qX3_extend_2a, qX3_extend_2b, qX3_extend_5, qX3_extend_8, qX3_extend_9, qX3_extend_11, qX3_extend_14, qX3_extend_15, qX3_extend_16, qX3_extend_18, qX3_extend_21, qX3_extend_22, qX3_extend_23, qX3_extend_27, qX3_extend_28a, qX3_extend_28b, qX3_extend_31, qX3_extend_34, qX3_extend_35, qX3_extend_37, qX3_extend_40, qX3_extend_43, qX3_extend_44, qX3_extend_45, qX3_extend_47, qX3_extend_48, qX3_extend_49, qX3_extend_51, qX3_extend_54, qX3_extend_57, qX3_extend_60, k11, hle, if_false, s_isIn_n (show l < 31 by omega), hbt, if_true, show ¬ (1 : Int32) = 0 by decide, nI_1, Option.toList, List.cons_append, List.nil_append]
        · have hbt : ¬ bt x l = true := fun q => hin ((hx l (by omega)).mp q)
          have e : ∀ s, foldL (fun l s => cite (∃ i, i < k ∧ f i = l) s (cite (sch_may (DU σ) b s l (WK σ (updN f k l) (k + 1))) (sch_E n (WK σ) (FS σ n) (DU σ) b h (k + 1) (updN f k l) s) s)) (l + 1) s = _ := fun s => cite_neg hin
          obtain ⟨τ1, o1, o2, o3, o4, o5⟩ := one l _ τ (by omega) hrow hfr hr hok hin
          obtain ⟨τ', i1, i2, i3, i4, i5⟩ := ihj (l + 1) τ1 (by omega) o4 o1 (by rw [e]; exact o2) (by rw [e]; exact o3)
          refine ⟨τ', i1, i2, i3, i4, fun d P => ?_⟩
          rw [← i5 d P, qX3_extend_25]
          simp only [qX3_extend_0, qX3_extend_1, qX3_extend_2a, qX3_extend_2b, qX3_extend_5, qX3_extend_8, qX3_extend_9, qX3_extend_11, qX3_extend_14, qX3_extend_15, qX3_extend_16, qX3_extend_18, qX3_extend_21, qX3_extend_22, qX3_extend_23, qX3_extend_27, qX3_extend_28a, qX3_extend_28b, qX3_extend_31, qX3_extend_34, qX3_extend_35, qX3_extend_37, qX3_extend_40, qX3_extend_43, qX3_extend_44, qX3_extend_45, qX3_extend_47, qX3_extend_48, qX3_extend_49, qX3_extend_51, qX3_extend_54, qX3_extend_57, qX3_extend_60, k11, hle, if_false, s_isIn_n (show l < 31 by omega), hbt, Bool.false_eq_true, if_true, if_false, o5, nI_1, Option.toList, List.cons_append, List.nil_append]
    obtain ⟨τ', i1, i2, i3, i4, i5⟩ := lp n 0 τ (by omega) hrow hfr hr hok
    refine ⟨τ', i1, i2, i3, i4, fun d P => ?_⟩
    rw [← i5 d P]
    show mm_run shC (d + 2 * h + 4 + 1 + 1) _ _ _ _ = _
    rw [in_X3_extend]
    have k11 : τ.1 11 8 = nI n := by rw [hfr 11 (by decide) (by decide) (by decide)]; exact h1.2.1.1
    have q1 : ¬ nI n ≤ nI k := nI_ge (by omega) (by omega)
    have q2 : nI k < 7 := show nI k < nI 7 from nI_lt (by omega) (by decide)
    simp only [qX3_extend_0, qX3_extend_1, qX3_extend_2a, qX3_extend_2b, qX3_extend_5, qX3_extend_8, qX3_extend_9, qX3_extend_11, qX3_extend_14, qX3_extend_15, qX3_extend_16, qX3_extend_18, qX3_extend_21, qX3_extend_22, qX3_extend_23, qX3_extend_27, qX3_extend_28a, qX3_extend_28b, qX3_extend_31, qX3_extend_34, qX3_extend_35, qX3_extend_37, qX3_extend_40, qX3_extend_43, qX3_extend_44, qX3_extend_45, qX3_extend_47, qX3_extend_48, qX3_extend_49, qX3_extend_51, qX3_extend_54, qX3_extend_57, qX3_extend_60, k11, q1, q2, if_true, if_false]
    rfl
end EXT
