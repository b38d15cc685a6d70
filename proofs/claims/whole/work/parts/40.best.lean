/-! CALLS: best -/
theorem tbest_loop {σ μ : mm_M} {n np : Nat} (h1 : TwR σ μ n np) (was : Int32) : ∀ (j c : Nat) (τ ν : mm_M) (best least : Int32) (a5 a6 a7 : Value), j + c = 21 → (∀ k, k < 19 ∨ 32 < k → τ.1 k = σ.1 k) → (∀ k, k ≠ 0 → k ≠ 15 → k ≠ 16 → k ≠ 17 → k ≠ 19 → ν.1 k = μ.1 k) → (∀ q, q ≠ 9 → ν.1 0 q = μ.1 0 q) → (best = -1 ∨ ∃ b, b < 21 ∧ best = nI b) → ∃ (r : Int32) (τ' ν' : mm_M), (∀ k, k < 19 ∨ 32 < k → τ'.1 k = σ.1 k) ∧ (∀ k, k ≠ 0 → k ≠ 15 → k ≠ 16 → k ≠ 17 → k ≠ 19 → ν'.1 k = μ.1 k) ∧ (∀ q, q ≠ 9 → ν'.1 0 q = μ.1 0 q) ∧ ν'.1 0 9 = was ∧ (∀ (d : Nat) (P : mm_O), mm_at shC (d + 39) 62 [] P 6 [.ref 0, .int best, .int least, .int (nI c)] [] τ = P (some (.int r)) τ') ∧ ∀ (d : Nat) (P : mm_O), mm_at shM (d + 39) 132 [] P 12 [.ref 0, .int was, .int best, .int least, .int (nI c), a5, a6, a7] [] ν = P (some (.int r)) ν' := by
  have hn := h1.2.1.2.2
  intro j
  induction j with
  | zero =>
    intro c τ ν best least a5 a6 a7 hc k1 k2 k3 k4
    have hc : c = 21 := by omega
    subst hc
    refine ⟨best, τ, mm_set ν 0 (upd (ν.1 0) 9 was), k1, fun k a b c d e => by rw [mm_set_ne _ _ a]; exact k2 k a b c d e, fun q hq => by rw [mm_set_same, upd_1, if_neg hq]; exact k3 q hq, by rw [mm_set_same, upd_1, if_pos rfl], fun d P => ?_, fun d P => ?_⟩
    · rw [qX6_best_6]
      simp only [qX6_best_0, qX6_best_1, qX6_best_2, qX6_best_3, qX6_best_4, qX6_best_5, qX6_best_7, qX6_best_9, qX6_best_12, qX6_best_13, qX6_best_16, qX6_best_17, qX6_best_20, qX6_best_21, qX6_best_24, qX6_best_27, qX6_best_28, qX6_best_31, qX6_best_32, qX6_best_35, qX6_best_36, qX6_best_39, qX6_best_42, qX6_best_45, qX6_best_46, qX6_best_47, qX6_best_50, qX6_best_51, qX6_best_54, qX6_best_57, qX6_best_58, qX6_best_61, qX6_best_62, qX6_best_63, qX6_best_64, qX6_best_67, qX6_best_70, qX6_best_71, qX6_best_74, qX6_best_77, qX6_best_78, show (20 : Int32) < nI 21 by decide, if_true]
    · rw [qX7_best_12]
      simp only [qX7_best_0, qX7_best_1, qX7_best_4, qX7_best_5, qX7_best_6, qX7_best_7, qX7_best_8, qX7_best_9, qX7_best_10, qX7_best_14, qX7_best_16, qX7_best_19, qX7_best_20, qX7_best_22, qX7_best_25, qX7_best_26, qX7_best_29, qX7_best_31, qX7_best_32, qX7_best_35, qX7_best_37, qX7_best_38, qX7_best_41, qX7_best_43, qX7_best_46, qX7_best_47, qX7_best_50, qX7_best_52, qX7_best_53, qX7_best_56, qX7_best_57, qX7_best_60, qX7_best_61, qX7_best_63, qX7_best_65, qX7_best_68, qX7_best_70, qX7_best_73, qX7_best_74, qX7_best_75, qX7_best_77, qX7_best_80, qX7_best_82, qX7_best_85, qX7_best_86, qX7_best_87, qX7_best_90, qX7_best_93, qX7_best_94, qX7_best_95, qX7_best_98, qX7_best_99, show (20 : Int32) < nI 21 by decide, if_true, mm_sti_set]
  | succ j ih =>
    intro c τ ν best least a5 a6 a7 hc k1 k2 k3 k4
    have hl : ¬ (20 : Int32) < nI c := show ¬ nI 20 < nI c from nI_nlt (by omega) (by decide)
    generalize hν1 : mm_set ν 0 (upd (ν.1 0) 9 (nI c)) = ν1
    have v1 : ∀ k, k ≠ 0 → ν1.1 k = ν.1 k := fun k hk => by rw [← hν1, mm_set_ne _ _ hk]
    have v2 : ∀ q, q ≠ 9 → ν1.1 0 q = μ.1 0 q := fun q hq => by rw [← hν1, mm_set_same, upd_1, if_neg hq]; exact k3 q hq
    have v3 : ν1.1 0 9 = nI c := by rw [← hν1, mm_set_same, upd_1, if_pos rfl]
    have v4 : ∀ k, 1 ≤ k ∧ k < 8 → ν1.1 k = μ.1 k := fun k hk => by rw [v1 k (by omega)]; exact k2 k (by omega) (by omega) (by omega) (by omega) (by omega)
    obtain ⟨R, b, τ1, ν2, hR, e1, e2, e3, e4, e5, e6, e7, e8⟩ := rest_both (τ := τ) (ν := ν1) (c := c) h1 (fun k hk => k1 k (by omega)) v4 (v2 3 (by decide)) (v2 10 (by decide)) v3 (by omega)
    have z0 : ν2.1 0 = ν1.1 0 := e2 0 (by decide) (by decide) (by decide) (by decide) (by decide)
    have hMk : okM ν2 n := okM_of h1.okM (by rw [e2 3 (by decide) (by decide) (by decide) (by decide) (by decide), v4 3 (by omega)]) (by rw [z0, v2 3 (by decide)])
    have w0 : (wnF ν2 n).1 0 3 = nI n := by rw [wnF_o (by decide) (by decide) (by decide)]; exact hMk.1
    have back := fun (d : Nat) (P : mm_O) => s_MgoBackFromRest (d := d) (P := P) (μ := wnF ν2 n) hn w0
    generalize hν3 : mm_set (wnF ν2 n) 7 (fun i => if i < n then (wnF ν2 n).1 19 i else (wnF ν2 n).1 7 i) = ν3 at back
    have y7 : ν3.1 7 = μ.1 7 := by
      rw [← hν3, mm_set_same]
      funext i
      rw [wnF_o (k := 19) (by decide) (by decide) (by decide), wnF_o (k := 7) (by decide) (by decide) (by decide)]
      by_cases hi : i < n
      · rw [if_pos hi, e3 i hi, v4 7 (by omega)]
      · rw [if_neg hi, e4 i (by omega), v4 7 (by omega)]
    have y1 : ∀ k, k ≠ 0 → k ≠ 15 → k ≠ 16 → k ≠ 17 → k ≠ 19 → ν3.1 k = μ.1 k := fun k a b c d e => by
      by_cases h7 : k = 7
      · rw [h7]; exact y7
      · rw [← hν3, mm_set_ne _ _ h7, wnF_o b c d, e2 k h7 b c d e, v1 k a]; exact k2 k a b c d e
    have y2 : ∀ q, q ≠ 9 → ν3.1 0 q = μ.1 0 q := fun q hq => by
      rw [← hν3, mm_set_ne _ _ (by decide), wnF_o (by decide) (by decide) (by decide), z0]; exact v2 q hq
    have mdl : ∀ (d : Nat) (P : mm_O), mm_at shM (d + 39) 132 [] P 12 [.ref 0, .int was, .int best, .int least, .int (nI c), a5, a6, a7] [] ν = mm_at shM (d + 39) 132 [] P 41 [.ref 0, .int was, .int best, .int least, .int (nI c), .int (if R = 30 then -1 else nI R), .int (WM ν2 n n), a7] [] ν3 := fun d P => by
      rw [qX7_best_12]
      simp only [qX7_best_0, qX7_best_1, qX7_best_4, qX7_best_5, qX7_best_6, qX7_best_7, qX7_best_8, qX7_best_9, qX7_best_10, qX7_best_14, qX7_best_16, qX7_best_19, qX7_best_20, qX7_best_22, qX7_best_25, qX7_best_26, qX7_best_29, qX7_best_31, qX7_best_32, qX7_best_35, qX7_best_37, qX7_best_38, qX7_best_43, qX7_best_46, qX7_best_47, qX7_best_50, qX7_best_52, qX7_best_53, qX7_best_56, qX7_best_57, qX7_best_60, qX7_best_61, qX7_best_63, qX7_best_65, qX7_best_68, qX7_best_70, qX7_best_73, qX7_best_74, qX7_best_75, qX7_best_77, qX7_best_80, qX7_best_82, qX7_best_85, qX7_best_86, qX7_best_87, qX7_best_90, qX7_best_93, qX7_best_94, qX7_best_95, qX7_best_98, qX7_best_99, hl, if_false, mm_sti_set, hν1, e8, s_MwalkNow hMk, back, Option.toList, List.cons_append, List.nil_append]
    by_cases h30 : R = 30
    · have hb := e6 h30
      obtain ⟨r, τ', ν', i1, i2, i3, i4, i5, i6⟩ := ih (c + 1) τ1 ν3 best least (.int (-1)) (.int (WM ν2 n n)) (.int 0) (by omega) (fun k hk => by rw [e1 k (by omega)]; exact k1 k hk) y1 y2 k4
      refine ⟨r, τ', ν', i1, i2, i3, i4, fun d P => ?_, fun d P => ?_⟩
      · rw [← i5 d P, qX6_best_6]
        simp only [qX6_best_0, qX6_best_1, qX6_best_2, qX6_best_3, qX6_best_4, qX6_best_5, qX6_best_7, qX6_best_9, qX6_best_12, qX6_best_13, qX6_best_16, qX6_best_17, qX6_best_20, qX6_best_21, qX6_best_24, qX6_best_27, qX6_best_28, qX6_best_31, qX6_best_32, qX6_best_35, qX6_best_36, qX6_best_39, qX6_best_42, qX6_best_45, qX6_best_46, qX6_best_47, qX6_best_50, qX6_best_51, qX6_best_54, qX6_best_57, qX6_best_58, qX6_best_61, qX6_best_62, qX6_best_63, qX6_best_64, qX6_best_67, qX6_best_70, qX6_best_71, qX6_best_74, qX6_best_77, qX6_best_78, hl, if_false, e7, hb, if_true, Option.toList, List.cons_append, List.nil_append, nI_1]
      · rw [← i6 d P, mdl]
        simp only [qX7_best_0, qX7_best_1, qX7_best_4, qX7_best_5, qX7_best_6, qX7_best_7, qX7_best_8, qX7_best_9, qX7_best_10, qX7_best_14, qX7_best_16, qX7_best_19, qX7_best_20, qX7_best_22, qX7_best_25, qX7_best_26, qX7_best_29, qX7_best_31, qX7_best_32, qX7_best_35, qX7_best_37, qX7_best_38, qX7_best_41, qX7_best_43, qX7_best_46, qX7_best_47, qX7_best_50, qX7_best_52, qX7_best_53, qX7_best_56, qX7_best_57, qX7_best_60, qX7_best_61, qX7_best_63, qX7_best_65, qX7_best_68, qX7_best_70, qX7_best_73, qX7_best_74, qX7_best_75, qX7_best_77, qX7_best_80, qX7_best_82, qX7_best_85, qX7_best_86, qX7_best_87, qX7_best_90, qX7_best_93, qX7_best_94, qX7_best_95, qX7_best_98, qX7_best_99, h30, if_true, show (-1 : Int32) < 0 by decide, nI_1]
    · have hlt : R < 30 := by omega
      have hb := (e5 hlt).1
      have hR0 : ¬ nI R < 0 := nI_neg (by omega)
      have hT : okT τ1 n := (h1.okB.of (fun k hk => by rw [e1 k (by omega)]; exact k1 k (by omega))).1
      have f1 := fun (d : Nat) (P : mm_O) => s_lay_19 (d := d) (P := P) (σ := τ1) (n := n) (S := 27) rfl hT (by decide)
      have hm : (layF τ1 19 20 21 22 27 n).1 19 3 = WF τ1 27 n n := by simp [layF, laidF, mm_set_1, upd_1]
      have hwk : WF τ1 27 n n = WM ν2 n n := (wk_eq h1 (fun k hk => by rw [e1 k (by omega)]; exact k1 k (by omega)) (fun k hk => by rw [e2 k (by omega) (by omega) (by omega) (by omega) (by omega)]; exact v4 k (by omega)) (by rw [z0, v2 10 (by decide)]) (e5 hlt).2.2).2
      rw [hwk] at hm
      generalize hτ2 : layF τ1 19 20 21 22 27 n = τ2 at f1 hm
      have t2 : ∀ k, k < 19 ∨ 32 < k → τ2.1 k = σ.1 k := fun k hk => by rw [← hτ2, layF_o (by omega) (by omega) (by omega) (by omega), e1 k (by omega)]; exact k1 k hk
      have cls : ∀ (d : Nat) (P : mm_O), mm_at shC (d + 39) 62 [] P 6 [.ref 0, .int best, .int least, .int (nI c)] [] τ = mm_at shC (d + 39) 62 [] P 45 [.ref 0, .int best, .int least, .int (nI c)] [] τ2 := fun d P => by
        rw [qX6_best_6]
        simp only [qX6_best_0, qX6_best_1, qX6_best_2, qX6_best_3, qX6_best_4, qX6_best_5, qX6_best_7, qX6_best_9, qX6_best_12, qX6_best_13, qX6_best_16, qX6_best_17, qX6_best_20, qX6_best_21, qX6_best_24, qX6_best_27, qX6_best_28, qX6_best_31, qX6_best_32, qX6_best_35, qX6_best_36, qX6_best_39, qX6_best_42, qX6_best_46, qX6_best_47, qX6_best_50, qX6_best_51, qX6_best_54, qX6_best_57, qX6_best_58, qX6_best_61, qX6_best_62, qX6_best_63, qX6_best_64, qX6_best_67, qX6_best_70, qX6_best_71, qX6_best_74, qX6_best_77, qX6_best_78, hl, if_false, e7, hb, show ¬ (1 : Int32) = 0 by decide, f1, Option.toList, List.cons_append, List.nil_append]
      have better : (best = -1 ∨ ¬ least ≤ WM ν2 n n) ∨ (¬ best = -1 ∧ ¬ best < 0 ∧ least ≤ WM ν2 n n) := by
        rcases k4 with q | ⟨b, hb, q⟩
        · exact Or.inl (Or.inl q)
        · by_cases hle : least ≤ WM ν2 n n
          · refine Or.inr ⟨?_, ?_, hle⟩
            · rw [q]; exact nI_m1 (by omega)
            · rw [q]; exact nI_neg (by omega)
          · exact Or.inl (Or.inr hle)
      rcases better with hy | ⟨hy1, hy2, hy3⟩
      · obtain ⟨r, τ', ν', i1, i2, i3, i4, i5, i6⟩ := ih (c + 1) τ2 ν3 (nI c) (WM ν2 n n) (.int (nI R)) (.int (WM ν2 n n)) (.int 1) (by omega) t2 y1 y2 (Or.inr ⟨c, by omega, rfl⟩)
        refine ⟨r, τ', ν', i1, i2, i3, i4, fun d P => ?_, fun d P => ?_⟩
        · rw [← i5 d P, cls]
          by_cases hb1 : best = -1
          · simp only [qX6_best_0, qX6_best_1, qX6_best_2, qX6_best_3, qX6_best_4, qX6_best_5, qX6_best_7, qX6_best_9, qX6_best_12, qX6_best_13, qX6_best_16, qX6_best_17, qX6_best_20, qX6_best_21, qX6_best_24, qX6_best_27, qX6_best_28, qX6_best_31, qX6_best_32, qX6_best_35, qX6_best_36, qX6_best_39, qX6_best_42, qX6_best_45, qX6_best_46, qX6_best_47, qX6_best_50, qX6_best_51, qX6_best_54, qX6_best_57, qX6_best_58, qX6_best_61, qX6_best_62, qX6_best_63, qX6_best_64, qX6_best_67, qX6_best_70, qX6_best_71, qX6_best_74, qX6_best_77, qX6_best_78, hb1, if_true, hm, nI_1]
          · have hle : ¬ least ≤ WM ν2 n n := hy.resolve_left hb1
            simp only [qX6_best_0, qX6_best_1, qX6_best_2, qX6_best_3, qX6_best_4, qX6_best_5, qX6_best_7, qX6_best_9, qX6_best_12, qX6_best_13, qX6_best_16, qX6_best_17, qX6_best_20, qX6_best_21, qX6_best_24, qX6_best_27, qX6_best_28, qX6_best_31, qX6_best_32, qX6_best_35, qX6_best_36, qX6_best_39, qX6_best_42, qX6_best_45, qX6_best_46, qX6_best_47, qX6_best_50, qX6_best_51, qX6_best_54, qX6_best_57, qX6_best_58, qX6_best_61, qX6_best_62, qX6_best_63, qX6_best_64, qX6_best_67, qX6_best_70, qX6_best_71, qX6_best_74, qX6_best_77, qX6_best_78, hb1, if_false, hm, hle, nI_1]
        · rw [← i6 d P, mdl]
          by_cases hb1 : best < 0
          · simp only [qX7_best_0, qX7_best_1, qX7_best_4, qX7_best_5, qX7_best_6, qX7_best_7, qX7_best_8, qX7_best_9, qX7_best_10, qX7_best_14, qX7_best_16, qX7_best_19, qX7_best_20, qX7_best_22, qX7_best_25, qX7_best_26, qX7_best_29, qX7_best_31, qX7_best_32, qX7_best_35, qX7_best_37, qX7_best_38, qX7_best_41, qX7_best_43, qX7_best_46, qX7_best_47, qX7_best_50, qX7_best_52, qX7_best_53, qX7_best_56, qX7_best_57, qX7_best_60, qX7_best_61, qX7_best_63, qX7_best_65, qX7_best_68, qX7_best_70, qX7_best_73, qX7_best_74, qX7_best_75, qX7_best_77, qX7_best_80, qX7_best_82, qX7_best_85, qX7_best_86, qX7_best_87, qX7_best_90, qX7_best_93, qX7_best_94, qX7_best_95, qX7_best_98, qX7_best_99, h30, if_false, hR0, hb1, if_true, show ¬ (1 : Int32) = 0 by decide, nI_1]
          · have hle : ¬ least ≤ WM ν2 n n := hy.resolve_left (fun q => hb1 (by rw [q]; decide))
            simp only [qX7_best_0, qX7_best_1, qX7_best_4, qX7_best_5, qX7_best_6, qX7_best_7, qX7_best_8, qX7_best_9, qX7_best_10, qX7_best_14, qX7_best_16, qX7_best_19, qX7_best_20, qX7_best_22, qX7_best_25, qX7_best_26, qX7_best_29, qX7_best_31, qX7_best_32, qX7_best_35, qX7_best_37, qX7_best_38, qX7_best_41, qX7_best_43, qX7_best_46, qX7_best_47, qX7_best_50, qX7_best_52, qX7_best_53, qX7_best_56, qX7_best_57, qX7_best_60, qX7_best_61, qX7_best_63, qX7_best_65, qX7_best_68, qX7_best_70, qX7_best_73, qX7_best_74, qX7_best_75, qX7_best_77, qX7_best_80, qX7_best_82, qX7_best_85, qX7_best_86, qX7_best_87, qX7_best_90, qX7_best_93, qX7_best_94, qX7_best_95, qX7_best_98, qX7_best_99, h30, if_false, hR0, hb1, hle, show ¬ (1 : Int32) = 0 by decide, nI_1]
      · obtain ⟨r, τ', ν', i1, i2, i3, i4, i5, i6⟩ := ih (c + 1) τ2 ν3 best least (.int (nI R)) (.int (WM ν2 n n)) (.int 0) (by omega) t2 y1 y2 k4
        refine ⟨r, τ', ν', i1, i2, i3, i4, fun d P => ?_, fun d P => ?_⟩
        · rw [← i5 d P, cls]
          simp only [qX6_best_0, qX6_best_1, qX6_best_2, qX6_best_3, qX6_best_4, qX6_best_5, qX6_best_7, qX6_best_9, qX6_best_12, qX6_best_13, qX6_best_16, qX6_best_17, qX6_best_20, qX6_best_21, qX6_best_24, qX6_best_27, qX6_best_28, qX6_best_31, qX6_best_32, qX6_best_35, qX6_best_36, qX6_best_39, qX6_best_42, qX6_best_45, qX6_best_46, qX6_best_47, qX6_best_50, qX6_best_51, qX6_best_54, qX6_best_57, qX6_best_58, qX6_best_61, qX6_best_62, qX6_best_63, qX6_best_64, qX6_best_67, qX6_best_70, qX6_best_71, qX6_best_74, qX6_best_77, qX6_best_78, hy1, if_false, hm, hy3, if_true, nI_1]
        · rw [← i6 d P, mdl]
          simp only [qX7_best_0, qX7_best_1, qX7_best_4, qX7_best_5, qX7_best_6, qX7_best_7, qX7_best_8, qX7_best_9, qX7_best_10, qX7_best_14, qX7_best_16, qX7_best_19, qX7_best_20, qX7_best_22, qX7_best_25, qX7_best_26, qX7_best_29, qX7_best_31, qX7_best_32, qX7_best_35, qX7_best_37, qX7_best_38, qX7_best_41, qX7_best_43, qX7_best_46, qX7_best_47, qX7_best_50, qX7_best_52, qX7_best_53, qX7_best_56, qX7_best_57, qX7_best_60, qX7_best_61, qX7_best_63, qX7_best_65, qX7_best_68, qX7_best_70, qX7_best_73, qX7_best_74, qX7_best_75, qX7_best_77, qX7_best_80, qX7_best_82, qX7_best_85, qX7_best_86, qX7_best_87, qX7_best_90, qX7_best_93, qX7_best_94, qX7_best_95, qX7_best_98, qX7_best_99, h30, if_false, hR0, hy2, hy3, if_true, nI_1]
theorem call_best : Call 62 132 [] := by
  intro σ μ h
  have hI := h
  obtain ⟨n, np, h1, h2, h3, h4, h5, h6, h7⟩ := h
  obtain ⟨r, τ', ν', i1, i2, i3, i4, i5, i6⟩ := tbest_loop h1 (μ.1 0 9) 21 0 σ μ (-1) 0 .null .null .null (by omega) (fun _ _ => rfl) (fun _ _ _ _ _ _ => rfl) (fun _ _ => rfl) (Or.inl rfl)
  have n0 : ν'.1 0 = μ.1 0 := by
    funext q
    by_cases hq : q = 9
    · rw [hq]; exact i4
    · exact i3 q hq
  refine ⟨r, τ', ν', hI.ag (fun k hk => i1 k (by omega)) ⟨fun k hk => i2 k (by omega) (by omega) (by omega) (by omega) (by omega), fun j _ => by rw [n0]⟩, fun d P => ?_, fun d P => ?_⟩
  · rw [in_X6_best]
    simp only [qX6_best_0, qX6_best_1, qX6_best_2, qX6_best_3, qX6_best_4, qX6_best_5, qX6_best_7, qX6_best_9, qX6_best_12, qX6_best_13, qX6_best_16, qX6_best_17, qX6_best_20, qX6_best_21, qX6_best_24, qX6_best_27, qX6_best_28, qX6_best_31, qX6_best_32, qX6_best_35, qX6_best_36, qX6_best_39, qX6_best_42, qX6_best_45, qX6_best_46, qX6_best_47, qX6_best_50, qX6_best_51, qX6_best_54, qX6_best_57, qX6_best_58, qX6_best_61, qX6_best_62, qX6_best_63, qX6_best_64, qX6_best_67, qX6_best_70, qX6_best_71, qX6_best_74, qX6_best_77, qX6_best_78]
    exact i5 d P
  · rw [in_X7_best]
    simp only [qX7_best_0, qX7_best_1, qX7_best_4, qX7_best_5, qX7_best_6, qX7_best_7, qX7_best_8, qX7_best_9, qX7_best_10, qX7_best_14, qX7_best_16, qX7_best_19, qX7_best_20, qX7_best_22, qX7_best_25, qX7_best_26, qX7_best_29, qX7_best_31, qX7_best_32, qX7_best_35, qX7_best_37, qX7_best_38, qX7_best_41, qX7_best_43, qX7_best_46, qX7_best_47, qX7_best_50, qX7_best_52, qX7_best_53, qX7_best_56, qX7_best_57, qX7_best_60, qX7_best_61, qX7_best_63, qX7_best_65, qX7_best_68, qX7_best_70, qX7_best_73, qX7_best_74, qX7_best_75, qX7_best_77, qX7_best_80, qX7_best_82, qX7_best_85, qX7_best_86, qX7_best_87, qX7_best_90, qX7_best_93, qX7_best_94, qX7_best_95, qX7_best_98, qX7_best_99]
    exact i6 d P
