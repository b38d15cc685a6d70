/-! CALLS: rests, best -/
theorem TwR.okB {σ μ : mm_M} {n np : Nat} (h : TwR σ μ n np) : okB σ n := ⟨h.okT, fun l hl => by
  obtain ⟨-, -, -, -, ⟨w, -, hw, e⟩, -⟩ := h.2.2.2.1 l hl
  exact ⟨w, hw, e⟩⟩
theorem rest_both {σ μ τ ν : mm_M} {n np c : Nat} (h1 : TwR σ μ n np) (hτ : ∀ k, 11 ≤ k ∧ k < 19 → τ.1 k = σ.1 k) (hν : ∀ k, 1 ≤ k ∧ k < 8 → ν.1 k = μ.1 k) (h3 : ν.1 0 3 = μ.1 0 3) (h10 : ν.1 0 10 = μ.1 0 10) (h9 : ν.1 0 9 = nI c) (hc : c ≤ 99) : ∃ (R : Nat) (b : Int32) (τ' ν' : mm_M), R ≤ 30 ∧ (∀ k, k < 26 ∨ 32 < k → τ'.1 k = τ.1 k) ∧ (∀ k, k ≠ 7 → k ≠ 15 → k ≠ 16 → k ≠ 17 → k ≠ 19 → ν'.1 k = ν.1 k) ∧ (∀ i, i < n → ν'.1 19 i = ν.1 7 i) ∧ (∀ i, n ≤ i → ν'.1 7 i = ν.1 7 i) ∧ (R < 30 → b = 1 ∧ τ'.1 26 3 = nI R ∧ ∀ i, i < n → τ'.1 27 i = ν'.1 7 i) ∧ (R = 30 → b = 0) ∧ (∀ (d : Nat) (P : mm_O), mm_run shC (d + 7) 35 [.ref 26, .ref 11, .int (nI c)] τ P = P (some (.int b)) τ') ∧ ∀ (d : Nat) (P : mm_O), mm_run shM (d + 8) 129 [.ref 0] ν P = P (some (.int (if R = 30 then -1 else nI R))) ν' := by
  have hn := h1.2.1.2.2
  have hB : okB τ n := h1.okB.of hτ
  have hM : okM ν n := okM_of h1.okM (hν 3 (by omega)) h3
  have hA : ∀ s s' l, l < n → (∀ i, i < n → s i = s' i) → abC (nI c) τ n s l = abM (nI c) ν n s' l := fun s s' l hl hs => by
    rw [abC_of hτ, abM_of (fun k hk => hν k (by omega)) h10]
    exact h1.ab hs hl _
  have hs : ∀ i, i < n → s27 τ i = ν.1 7 i := fun i hi => by
    unfold s27
    rw [if_pos (by omega), hτ 18 (by omega), hν 7 (by omega)]
    exact (h1.2.2.2.1 i hi).1.2.2.2.2
  obtain ⟨R, hR, q1, q2⟩ := ex_R (qG (abC (nI c) τ n) n (s27 τ)) 30
  obtain ⟨b, τ', i1, i2, i3, i4⟩ := s_settle hB hc (fun i hi => by rw [hτ 18 (by omega)]; exact (h1.2.2.2.1 i hi).2.2.2.2.2) hR q1 q2
  have e := fun r => q_rel hA hs r
  obtain ⟨ν', j1, j2, j3, j4, j5⟩ := s_MgoToRest (μ := ν) (n := n) (R := R) hM hR (by rw [h9]; exact fun i hi => by rw [← e]; exact q1 i hi) (by rw [h9]; exact fun hi => by rw [← e]; exact q2 hi)
  rw [h9] at j4
  exact ⟨R, b, τ', ν', hR, i1, j1, j2, j3, fun h => ⟨(i2 h).1, (i2 h).2.2, fun i hi => by rw [(i2 h).2.1, j4 h]; exact st_rel hA hs R i hi⟩, i3, i4, j5⟩
theorem wk_eq {σ μ τ ν : mm_M} {n np : Nat} (h1 : TwR σ μ n np) (hτ : ∀ k, 11 ≤ k ∧ k < 19 → τ.1 k = σ.1 k) (hν : ∀ k, 1 ≤ k ∧ k < 7 → ν.1 k = μ.1 k) (h10 : ν.1 0 10 = μ.1 0 10) (hs : ∀ i, i < n → τ.1 27 i = ν.1 7 i) : (∀ l, l < n → comeF τ 27 n l = comeM ν n l) ∧ WF τ 27 n n = WM ν n n := by
  refine ⟨fun l hl => ?_, ?_⟩
  · rw [comeF_cm, comeM_cm]
    have e := h1.cm hs hl
    unfold cmC cmM at e ⊢
    rw [hτ 11 (by omega), hτ 12 (by omega), hτ 13 (by omega), hτ 14 (by omega), hτ 15 (by omega), h10, hν 1 (by omega), hν 2 (by omega), hν 3 (by omega), hν 4 (by omega)]
    exact e
  · have ho : ∀ k, odF τ 27 n k = odM ν n k := fun k => by
      unfold odF odM
      rw [hτ 11 (by omega), h10, h1.law]
      exact ordF_congr (fun i hi => by unfold hvF hvM; rw [hτ 15 (by omega), hν 4 (by omega), (h1.2.2.2.1 i hi).1.2.1, hs i hi]) k
    unfold WF WM
    rw [hτ 12 (by omega), hτ 13 (by omega), hτ 14 (by omega), hν 1 (by omega), hν 2 (by omega), hν 3 (by omega)]
    exact wlkF_congr h1.np0 (fun p hp => ⟨(h1.2.2.1 p hp).1, (h1.2.2.1 p hp).2.1⟩) (fun l hl => (h1.gl hl).2) (fun k hk => ⟨odF_lt hk, ho k⟩) n (Nat.le_refl _)
theorem hs_eq {σ μ τ ν : mm_M} {n np : Nat} (h1 : TwR σ μ n np) (hτ : ∀ k, 11 ≤ k ∧ k < 19 → τ.1 k = σ.1 k) (hν : ∀ k, 1 ≤ k ∧ k < 7 → ν.1 k = μ.1 k) (h10 : ν.1 0 10 = μ.1 0 10) (h9 : ν.1 0 9 = μ.1 0 9) (hs : ∀ i, i < n → τ.1 27 i = ν.1 7 i) : sumF (fun l => (if (layF τ 19 20 21 22 27 n).1 22 l ≤ (layF τ 19 20 21 22 27 n).1 16 l then (layF τ 19 20 21 22 27 n).1 17 l else 0) - (layF τ 19 20 21 22 27 n).1 11 9 * (layF τ 19 20 21 22 27 n).1 27 l) n = sumF (hadM (wnF ν n)) n := by
  refine sumF_congr (fun l hl => ?_)
  obtain ⟨⟨-, -, r3, r4, r5⟩, -⟩ := h1.2.2.2.1 l hl
  unfold hadM
  rw [lay_c_19 hl, (wk_eq h1 hτ hν h10 hs).1 l hl, layF_o (k := 16) (by decide) (by decide) (by decide) (by decide), layF_o (k := 17) (by decide) (by decide) (by decide) (by decide), layF_o (k := 11) (by decide) (by decide) (by decide) (by decide), layF_o (k := 27) (by decide) (by decide) (by decide) (by decide), wnF_c hl, wnF_o (k := 5) (by decide) (by decide) (by decide), wnF_o (k := 6) (by decide) (by decide) (by decide), wnF_o (k := 0) (by decide) (by decide) (by decide), wnF_o (k := 7) (by decide) (by decide) (by decide), hτ 16 (by omega), hτ 17 (by omega), hτ 11 (by omega), hν 5 (by omega), hν 6 (by omega), h9, r3, r4, h1.2.2.2.2.1.1, hs l hl]
theorem rests_go {σ μ : mm_M} {n np : Nat} {i : Int32} (hI : Inv σ μ) (h1 : TwR σ μ n np) (hC : ∀ (d : Nat) (P : mm_O), mm_at shC (d + 39) 61 [] P 0 [.ref 0, .int i] [] σ = mm_at shC (d + 39) 61 [] P 20 [.ref 0, .int i] [] σ) (hM : ∀ (d : Nat) (P : mm_O), mm_at shM (d + 39) 131 [] P 0 [.ref 0, .int i, .null, .null] [] μ = mm_at shM (d + 39) 131 [] P 25 [.ref 0, .int i, .null, .null] [] μ)
    (hw : ∀ (R : Nat) (τ ν : mm_M), R ≤ 30 → (∀ k, k < 26 ∨ 32 < k → τ.1 k = σ.1 k) → (∀ k, k ≠ 7 → k ≠ 15 → k ≠ 16 → k ≠ 17 → k ≠ 19 → ν.1 k = μ.1 k) → (R < 30 → τ.1 26 3 = nI R ∧ ∀ i, i < n → τ.1 27 i = ν.1 7 i) → ∃ (x y : Int32) (τ' ν' : mm_M), (∀ k, k < 19 ∨ 26 ≤ k → τ'.1 k = τ.1 k) ∧ (∀ k, k ≠ 15 → k ≠ 16 → k ≠ 17 → ν'.1 k = ν.1 k) ∧ (R < 30 → x = y) ∧ (∀ (d : Nat) (P : mm_O), mm_at shC (d + 39) 61 [] P 43 [.ref 0, .int i] [] τ = P (some (.int x)) τ') ∧ ∀ (d : Nat) (P : mm_O), mm_at shM (d + 39) 131 [] P 30 [.ref 0, .int i, .int (if R = 30 then -1 else nI R), .null] [] ν = mm_at shM (d + 39) 131 [] P 71 [.ref 0, .int i, .int (if R = 30 then -1 else nI R), .null] [.int y] ν') :
    ∃ (r : Int32) (σ' μ' : mm_M), Inv σ' μ' ∧ (∀ (d : Nat) (P : mm_O), mm_run shC (d + 40) 61 [.ref 0, .int i] σ P = P (some (.int r)) σ') ∧ ∀ (d : Nat) (P : mm_O), mm_run shM (d + 40) 131 [.ref 0, .int i] μ P = P (some (.int r)) μ' := by
  have hn := h1.2.1.2.2
  obtain ⟨c, hc1, hc2, hc⟩ := h1.2.2.2.2.1.2
  have c9 := h1.2.2.2.2.1.1
  obtain ⟨R, b, τ, ν, hR, e1, e2, e3, e4, e5, e6, e7, e8⟩ := rest_both (τ := σ) (ν := μ) (c := c) h1 (fun _ _ => rfl) (fun _ _ => rfl) rfl rfl (by rw [← c9, hc]) hc2
  obtain ⟨x, y, τ', ν', f1, f2, f3, f4, f5⟩ := hw R τ ν hR e1 e2 (fun h => (e5 h).2)
  have n0 : ν'.1 0 = μ.1 0 := by rw [f2 0 (by decide) (by decide) (by decide), e2 0 (by decide) (by decide) (by decide) (by decide) (by decide)]
  have m7 : (fun i => if i < n then ν'.1 19 i else ν'.1 7 i) = μ.1 7 := by
    funext i
    rw [f2 19 (by decide) (by decide) (by decide), f2 7 (by decide) (by decide) (by decide)]
    by_cases hi : i < n
    · rw [if_pos hi]; exact e3 i hi
    · rw [if_neg hi]; exact e4 i (by omega)
  have agM : AgM μ (mm_set ν' 7 (fun i => if i < n then ν'.1 19 i else ν'.1 7 i)) := by
    rw [m7]
    refine ⟨fun k hk => ?_, fun j _ => by rw [mm_set_ne _ _ (by decide), n0]⟩
    rw [mm_set_1]
    by_cases h7 : k = 7
    · subst h7; rw [if_pos rfl]
    · rw [if_neg h7, f2 k (by omega) (by omega) (by omega)]
      exact e2 k h7 (by omega) (by omega) (by omega) (by omega)
  have back := fun (d : Nat) (P : mm_O) => s_MgoBackFromRest (d := d) (P := P) (μ := ν') hn (by rw [n0]; exact h1.2.1.2.1)
  have mdl : ∀ (d : Nat) (P : mm_O), mm_run shM (d + 40) 131 [.ref 0, .int i] μ P = P (some (.int (if R = 30 then -1 else y))) (mm_set ν' 7 (fun i => if i < n then ν'.1 19 i else ν'.1 7 i)) := fun d P => by
    rw [in_X7_rests, hM]
    simp only [qX7_rests_1, qX7_rests_2, qX7_rests_5, qX7_rests_8, qX7_rests_11, qX7_rests_14, qX7_rests_15, qX7_rests_16, qX7_rests_19, qX7_rests_22, qX7_rests_24, qX7_rests_25, qX7_rests_26, qX7_rests_29, qX7_rests_31, qX7_rests_32, qX7_rests_35, qX7_rests_36, qX7_rests_39, qX7_rests_40, qX7_rests_42, qX7_rests_45, qX7_rests_46, qX7_rests_49, qX7_rests_52, qX7_rests_53, qX7_rests_55, qX7_rests_58, qX7_rests_59, qX7_rests_62, qX7_rests_65, qX7_rests_66, qX7_rests_69, qX7_rests_70, qX7_rests_72, qX7_rests_73, qX7_rests_76, qX7_rests_77, qX7_rests_80, qX7_rests_81, qX7_rests_84, qX7_rests_85, e8, Option.toList, List.cons_append, List.nil_append]
    rw [f5]
    simp only [qX7_rests_0, qX7_rests_1, qX7_rests_2, qX7_rests_5, qX7_rests_8, qX7_rests_11, qX7_rests_14, qX7_rests_15, qX7_rests_16, qX7_rests_19, qX7_rests_22, qX7_rests_24, qX7_rests_25, qX7_rests_26, qX7_rests_29, qX7_rests_30, qX7_rests_31, qX7_rests_32, qX7_rests_35, qX7_rests_36, qX7_rests_39, qX7_rests_40, qX7_rests_42, qX7_rests_45, qX7_rests_46, qX7_rests_49, qX7_rests_52, qX7_rests_53, qX7_rests_55, qX7_rests_58, qX7_rests_59, qX7_rests_62, qX7_rests_65, qX7_rests_66, qX7_rests_69, qX7_rests_70, qX7_rests_71, qX7_rests_72, qX7_rests_73, qX7_rests_76, qX7_rests_77, qX7_rests_80, qX7_rests_81, qX7_rests_84, qX7_rests_85, back, Option.toList, List.cons_append, List.nil_append]
    by_cases h30 : R = 30
    · subst h30
      simp
    · simp only [h30, if_false]
      rw [if_pos (nI_pos' (by omega))]
  by_cases h30 : R = 30
  · have hb := e6 h30
    refine ⟨-1, τ, _, hI.ag (fun k hk => ?_) agM, fun d P => ?_, fun d P => ?_⟩
    · exact e1 k (by omega)
    · rw [in_X6_rests, hC]
      simp only [qX6_rests_1, qX6_rests_3, qX6_rests_6, qX6_rests_7, qX6_rests_8, qX6_rests_11, qX6_rests_14, qX6_rests_17, qX6_rests_19, qX6_rests_20, qX6_rests_21, qX6_rests_24, qX6_rests_25, qX6_rests_28, qX6_rests_29, qX6_rests_32, qX6_rests_35, qX6_rests_38, qX6_rests_41, qX6_rests_42, qX6_rests_44, qX6_rests_45, qX6_rests_48, qX6_rests_49, qX6_rests_52, qX6_rests_55, qX6_rests_56, qX6_rests_57, qX6_rests_60, qX6_rests_61, qX6_rests_64, qX6_rests_67, qX6_rests_68, qX6_rests_71, qX6_rests_72, qX6_rests_73, qX6_rests_76, qX6_rests_77, qX6_rests_80, qX6_rests_81, qX6_rests_84, qX6_rests_87, qX6_rests_90, qX6_rests_91, qX6_rests_93, qX6_rests_96, qX6_rests_97, qX6_rests_100, qX6_rests_101, qX6_rests_104, qX6_rests_105, qX6_rests_108, qX6_rests_111, qX6_rests_114, qX6_rests_117, qX6_rests_118, qX6_rests_121, qX6_rests_124, hc, e7, hb, if_true, Option.toList, List.cons_append, List.nil_append]
    · rw [mdl, if_pos h30]
  · have hlt : R < 30 := by omega
    have hb := (e5 hlt).1
    refine ⟨x, τ', _, hI.ag (fun k hk => ?_) agM, fun d P => ?_, fun d P => ?_⟩
    · rw [f1 k (by omega)]; exact e1 k (by omega)
    · rw [in_X6_rests, hC]
      simp only [qX6_rests_1, qX6_rests_3, qX6_rests_6, qX6_rests_7, qX6_rests_8, qX6_rests_11, qX6_rests_14, qX6_rests_17, qX6_rests_19, qX6_rests_20, qX6_rests_21, qX6_rests_24, qX6_rests_25, qX6_rests_28, qX6_rests_29, qX6_rests_32, qX6_rests_35, qX6_rests_38, qX6_rests_41, qX6_rests_42, qX6_rests_44, qX6_rests_45, qX6_rests_48, qX6_rests_49, qX6_rests_52, qX6_rests_55, qX6_rests_56, qX6_rests_57, qX6_rests_60, qX6_rests_61, qX6_rests_64, qX6_rests_67, qX6_rests_68, qX6_rests_71, qX6_rests_72, qX6_rests_73, qX6_rests_76, qX6_rests_77, qX6_rests_80, qX6_rests_81, qX6_rests_84, qX6_rests_87, qX6_rests_90, qX6_rests_91, qX6_rests_93, qX6_rests_96, qX6_rests_97, qX6_rests_100, qX6_rests_101, qX6_rests_104, qX6_rests_105, qX6_rests_108, qX6_rests_111, qX6_rests_114, qX6_rests_117, qX6_rests_118, qX6_rests_121, qX6_rests_124, hc, e7, hb, show ¬ (1 : Int32) = 0 by decide, if_false, Option.toList, List.cons_append, List.nil_append]
      exact f4 d P
    · rw [mdl, if_neg h30, f3 hlt]
theorem call_rests (i : Int32) : Call 61 131 [.int i] := by
  intro σ μ h
  have hI := h
  obtain ⟨n, np, h1, h2, h3, h4, h5, h6, h7⟩ := h
  have hn := h1.2.1.2.2
  have c8 := h1.2.1.1
  have m3 := h1.2.1.2.1
  by_cases hz : hasF (nI n) i = 0
  · by_cases hr : -3 ≤ i ∧ i ≤ -1
    · -- the three numbers
      have hi : i = -1 ∨ i = -2 ∨ i = -3 := by
        have a := Int32.le_iff_toInt_le.mp hr.1
        have b := Int32.le_iff_toInt_le.mp hr.2
        rw [show (-3 : Int32).toInt = -3 from rfl] at a
        rw [show (-1 : Int32).toInt = -1 from rfl] at b
        have : i.toInt = -1 ∨ i.toInt = -2 ∨ i.toInt = -3 := by omega
        rcases this with q | q | q
        · exact Or.inl (Int32.toInt_inj.mp q)
        · exact Or.inr (Or.inl (Int32.toInt_inj.mp q))
        · exact Or.inr (Or.inr (Int32.toInt_inj.mp q))
      have hlt : i < nI n := by
        rw [Int32.lt_iff_toInt_lt, nI_toInt (by omega)]
        have b := Int32.le_iff_toInt_le.mp hr.2
        rw [show (-1 : Int32).toInt = -1 from rfl] at b
        omega
      have hC : ∀ (d : Nat) (P : mm_O), mm_at shC (d + 39) 61 [] P 0 [.ref 0, .int i] [] σ = mm_at shC (d + 39) 61 [] P 20 [.ref 0, .int i] [] σ := fun d P => by
        simp only [qX6_rests_0, qX6_rests_1, qX6_rests_3, qX6_rests_6, qX6_rests_7, qX6_rests_8, qX6_rests_11, qX6_rests_14, qX6_rests_17, qX6_rests_19, qX6_rests_21, qX6_rests_24, qX6_rests_25, qX6_rests_28, qX6_rests_29, qX6_rests_32, qX6_rests_35, qX6_rests_38, qX6_rests_41, qX6_rests_42, qX6_rests_43, qX6_rests_44, qX6_rests_45, qX6_rests_48, qX6_rests_49, qX6_rests_52, qX6_rests_55, qX6_rests_56, qX6_rests_57, qX6_rests_60, qX6_rests_61, qX6_rests_64, qX6_rests_67, qX6_rests_68, qX6_rests_71, qX6_rests_72, qX6_rests_73, qX6_rests_76, qX6_rests_77, qX6_rests_80, qX6_rests_81, qX6_rests_84, qX6_rests_87, qX6_rests_90, qX6_rests_91, qX6_rests_93, qX6_rests_96, qX6_rests_97, qX6_rests_100, qX6_rests_101, qX6_rests_104, qX6_rests_105, qX6_rests_108, qX6_rests_111, qX6_rests_114, qX6_rests_117, qX6_rests_118, qX6_rests_121, qX6_rests_124, c8, Int32.not_lt.mpr hr.1, hlt, if_true, if_false]
      have hM : ∀ (d : Nat) (P : mm_O), mm_at shM (d + 39) 131 [] P 0 [.ref 0, .int i, .null, .null] [] μ = mm_at shM (d + 39) 131 [] P 25 [.ref 0, .int i, .null, .null] [] μ := fun d P => by
        have hh : (-3 : Int64) ≤ i.toInt64 ∧ i.toInt64 ≤ -1 := ⟨(i2l_le (-3) i).mpr hr.1, (i2l_le i (-1)).mpr hr.2⟩
        simp only [qX7_rests_0, qX7_rests_1, qX7_rests_2, qX7_rests_5, qX7_rests_8, qX7_rests_11, qX7_rests_14, qX7_rests_15, qX7_rests_16, qX7_rests_19, qX7_rests_22, qX7_rests_24, qX7_rests_26, qX7_rests_29, qX7_rests_30, qX7_rests_31, qX7_rests_32, qX7_rests_35, qX7_rests_36, qX7_rests_39, qX7_rests_40, qX7_rests_42, qX7_rests_45, qX7_rests_46, qX7_rests_49, qX7_rests_52, qX7_rests_53, qX7_rests_55, qX7_rests_58, qX7_rests_59, qX7_rests_62, qX7_rests_65, qX7_rests_66, qX7_rests_69, qX7_rests_70, qX7_rests_71, qX7_rests_72, qX7_rests_73, qX7_rests_76, qX7_rests_77, qX7_rests_80, qX7_rests_81, qX7_rests_84, qX7_rests_85, s_Min, hh, and_self, if_true, show ¬ (1 : Int32) = 0 by decide, if_false, Option.toList, List.cons_append, List.nil_append]
      rcases hi with rfl | rfl | rfl
      · exact rests_go hI h1 hC hM (fun R τ ν hR e1 e2 e3 => ⟨τ.1 26 3, if R = 30 then -1 else nI R, τ, ν, fun _ _ => rfl, fun _ _ _ _ => rfl, fun hlt => by rw [(e3 hlt).1, if_neg (by omega)], fun d P => by
          simp only [qX6_rests_0, qX6_rests_1, qX6_rests_3, qX6_rests_6, qX6_rests_7, qX6_rests_8, qX6_rests_11, qX6_rests_14, qX6_rests_17, qX6_rests_19, qX6_rests_20, qX6_rests_21, qX6_rests_24, qX6_rests_25, qX6_rests_28, qX6_rests_29, qX6_rests_32, qX6_rests_35, qX6_rests_38, qX6_rests_41, qX6_rests_42, qX6_rests_43, qX6_rests_44, qX6_rests_45, qX6_rests_48, qX6_rests_49, qX6_rests_52, qX6_rests_55, qX6_rests_56, qX6_rests_57, qX6_rests_60, qX6_rests_61, qX6_rests_64, qX6_rests_67, qX6_rests_68, qX6_rests_71, qX6_rests_72, qX6_rests_73, qX6_rests_76, qX6_rests_77, qX6_rests_80, qX6_rests_81, qX6_rests_84, qX6_rests_87, qX6_rests_90, qX6_rests_91, qX6_rests_93, qX6_rests_96, qX6_rests_97, qX6_rests_100, qX6_rests_101, qX6_rests_104, qX6_rests_105, qX6_rests_108, qX6_rests_111, qX6_rests_114, qX6_rests_117, qX6_rests_118, qX6_rests_121, qX6_rests_124, if_true], fun d P => by
          simp only [qX7_rests_0, qX7_rests_1, qX7_rests_2, qX7_rests_5, qX7_rests_8, qX7_rests_11, qX7_rests_14, qX7_rests_15, qX7_rests_16, qX7_rests_19, qX7_rests_22, qX7_rests_24, qX7_rests_25, qX7_rests_26, qX7_rests_29, qX7_rests_30, qX7_rests_31, qX7_rests_32, qX7_rests_35, qX7_rests_36, qX7_rests_39, qX7_rests_40, qX7_rests_42, qX7_rests_45, qX7_rests_46, qX7_rests_49, qX7_rests_52, qX7_rests_53, qX7_rests_55, qX7_rests_58, qX7_rests_59, qX7_rests_62, qX7_rests_65, qX7_rests_66, qX7_rests_69, qX7_rests_70, qX7_rests_72, qX7_rests_73, qX7_rests_76, qX7_rests_77, qX7_rests_80, qX7_rests_81, qX7_rests_84, qX7_rests_85, if_true]⟩)
      · refine rests_go hI h1 hC hM (fun R τ ν hR e1 e2 e3 => ?_)
        have hT : okT τ n := (h1.okB.of (fun k hk => e1 k (by omega))).1
        have hMk : okM ν n := okM_of h1.okM (e2 3 (by decide) (by decide) (by decide) (by decide) (by decide)) (by rw [e2 0 (by decide) (by decide) (by decide) (by decide) (by decide)])
        have f1 := fun (d : Nat) (P : mm_O) => s_lay_19 (d := d) (P := P) (σ := τ) (n := n) (S := 27) rfl hT (by decide)
        have f2 := fun (d : Nat) (P : mm_O) => s_hadOfAll_19 (d := d) (P := P) (σ := layF τ 19 20 21 22 27 n) (n := n) (S := 27) rfl hn (by rw [layF_o (by decide) (by decide) (by decide) (by decide)]; exact hT.1)
        refine ⟨_, sumF (hadM (wnF ν n)) n, layF τ 19 20 21 22 27 n, wnF ν n, fun k hk => layF_o (by omega) (by omega) (by omega) (by omega), fun k a b c => wnF_o a b c, fun hlt => hs_eq h1 (fun k hk => e1 k (by omega)) (fun k hk => e2 k (by omega) (by omega) (by omega) (by omega) (by omega)) (by rw [e2 0 (by decide) (by decide) (by decide) (by decide) (by decide)]) (by rw [e2 0 (by decide) (by decide) (by decide) (by decide) (by decide)]) (e3 hlt).2, fun d P => ?_, fun d P => ?_⟩
        · simp only [qX6_rests_0, qX6_rests_1, qX6_rests_3, qX6_rests_6, qX6_rests_7, qX6_rests_8, qX6_rests_11, qX6_rests_14, qX6_rests_17, qX6_rests_19, qX6_rests_20, qX6_rests_21, qX6_rests_24, qX6_rests_25, qX6_rests_28, qX6_rests_29, qX6_rests_32, qX6_rests_35, qX6_rests_38, qX6_rests_41, qX6_rests_42, qX6_rests_43, qX6_rests_44, qX6_rests_45, qX6_rests_48, qX6_rests_49, qX6_rests_52, qX6_rests_55, qX6_rests_56, qX6_rests_57, qX6_rests_60, qX6_rests_61, qX6_rests_64, qX6_rests_67, qX6_rests_68, qX6_rests_71, qX6_rests_72, qX6_rests_73, qX6_rests_76, qX6_rests_77, qX6_rests_80, qX6_rests_81, qX6_rests_84, qX6_rests_87, qX6_rests_90, qX6_rests_91, qX6_rests_93, qX6_rests_96, qX6_rests_97, qX6_rests_100, qX6_rests_101, qX6_rests_104, qX6_rests_105, qX6_rests_108, qX6_rests_111, qX6_rests_114, qX6_rests_117, qX6_rests_118, qX6_rests_121, qX6_rests_124, show ¬ (-2 : Int32) = -1 by decide, show (-2 : Int32) < 0 by decide, if_true, if_false, f1, f2, Option.toList, List.cons_append, List.nil_append]
        · simp only [qX7_rests_0, qX7_rests_1, qX7_rests_2, qX7_rests_5, qX7_rests_8, qX7_rests_11, qX7_rests_14, qX7_rests_15, qX7_rests_16, qX7_rests_19, qX7_rests_22, qX7_rests_24, qX7_rests_25, qX7_rests_26, qX7_rests_29, qX7_rests_30, qX7_rests_31, qX7_rests_32, qX7_rests_35, qX7_rests_36, qX7_rests_39, qX7_rests_40, qX7_rests_42, qX7_rests_45, qX7_rests_46, qX7_rests_49, qX7_rests_52, qX7_rests_53, qX7_rests_55, qX7_rests_58, qX7_rests_59, qX7_rests_62, qX7_rests_65, qX7_rests_66, qX7_rests_69, qX7_rests_70, qX7_rests_72, qX7_rests_73, qX7_rests_76, qX7_rests_77, qX7_rests_80, qX7_rests_81, qX7_rests_84, qX7_rests_85, show ¬ (-2 : Int32) = -1 by decide, if_true, if_false, s_MhadAll hMk, Option.toList, List.cons_append, List.nil_append]
      · refine rests_go hI h1 hC hM (fun R τ ν hR e1 e2 e3 => ?_)
        have hT : okT τ n := (h1.okB.of (fun k hk => e1 k (by omega))).1
        have hMk : okM ν n := okM_of h1.okM (e2 3 (by decide) (by decide) (by decide) (by decide) (by decide)) (by rw [e2 0 (by decide) (by decide) (by decide) (by decide) (by decide)])
        have f1 := fun (d : Nat) (P : mm_O) => s_lay_19 (d := d) (P := P) (σ := τ) (n := n) (S := 27) rfl hT (by decide)
        have hm : (layF τ 19 20 21 22 27 n).1 19 3 = WF τ 27 n n := by simp [layF, laidF, mm_set_1, upd_1]
        refine ⟨WF τ 27 n n, WM ν n n, layF τ 19 20 21 22 27 n, wnF ν n, fun k hk => layF_o (by omega) (by omega) (by omega) (by omega), fun k a b c => wnF_o a b c, fun hlt => (wk_eq h1 (fun k hk => e1 k (by omega)) (fun k hk => e2 k (by omega) (by omega) (by omega) (by omega) (by omega)) (by rw [e2 0 (by decide) (by decide) (by decide) (by decide) (by decide)]) (e3 hlt).2).2, fun d P => ?_, fun d P => ?_⟩
        · simp only [qX6_rests_0, qX6_rests_1, qX6_rests_3, qX6_rests_6, qX6_rests_7, qX6_rests_8, qX6_rests_11, qX6_rests_14, qX6_rests_17, qX6_rests_19, qX6_rests_20, qX6_rests_21, qX6_rests_24, qX6_rests_25, qX6_rests_28, qX6_rests_29, qX6_rests_32, qX6_rests_35, qX6_rests_38, qX6_rests_41, qX6_rests_42, qX6_rests_43, qX6_rests_44, qX6_rests_45, qX6_rests_48, qX6_rests_49, qX6_rests_52, qX6_rests_55, qX6_rests_56, qX6_rests_57, qX6_rests_60, qX6_rests_61, qX6_rests_64, qX6_rests_67, qX6_rests_68, qX6_rests_71, qX6_rests_72, qX6_rests_73, qX6_rests_76, qX6_rests_77, qX6_rests_80, qX6_rests_81, qX6_rests_84, qX6_rests_87, qX6_rests_90, qX6_rests_91, qX6_rests_93, qX6_rests_96, qX6_rests_97, qX6_rests_100, qX6_rests_101, qX6_rests_104, qX6_rests_105, qX6_rests_108, qX6_rests_111, qX6_rests_114, qX6_rests_117, qX6_rests_118, qX6_rests_121, qX6_rests_124, show ¬ (-3 : Int32) = -1 by decide, show ¬ (-3 : Int32) = -2 by decide, show (-3 : Int32) < 0 by decide, if_true, if_false, f1, hm, Option.toList, List.cons_append, List.nil_append]
        · simp only [qX7_rests_0, qX7_rests_1, qX7_rests_2, qX7_rests_5, qX7_rests_8, qX7_rests_11, qX7_rests_14, qX7_rests_15, qX7_rests_16, qX7_rests_19, qX7_rests_22, qX7_rests_24, qX7_rests_25, qX7_rests_26, qX7_rests_29, qX7_rests_30, qX7_rests_31, qX7_rests_32, qX7_rests_35, qX7_rests_36, qX7_rests_39, qX7_rests_40, qX7_rests_42, qX7_rests_45, qX7_rests_46, qX7_rests_49, qX7_rests_52, qX7_rests_53, qX7_rests_55, qX7_rests_58, qX7_rests_59, qX7_rests_62, qX7_rests_65, qX7_rests_66, qX7_rests_69, qX7_rests_70, qX7_rests_72, qX7_rests_73, qX7_rests_76, qX7_rests_77, qX7_rests_80, qX7_rests_81, qX7_rests_84, qX7_rests_85, show ¬ (-3 : Int32) = -1 by decide, show ¬ (-3 : Int32) = -2 by decide, if_true, if_false, s_MwalkNow hMk, Option.toList, List.cons_append, List.nil_append]
    · -- no letter
      refine ⟨-1000000001, σ, μ, hI, fun d P => ?_, fun d P => ?_⟩
      · rw [in_X6_rests]
        by_cases hlo : i < -3
        · simp only [qX6_rests_0, qX6_rests_1, qX6_rests_3, qX6_rests_6, qX6_rests_7, qX6_rests_8, qX6_rests_11, qX6_rests_14, qX6_rests_17, qX6_rests_19, qX6_rests_20, qX6_rests_21, qX6_rests_24, qX6_rests_25, qX6_rests_28, qX6_rests_29, qX6_rests_32, qX6_rests_35, qX6_rests_38, qX6_rests_41, qX6_rests_42, qX6_rests_43, qX6_rests_44, qX6_rests_45, qX6_rests_48, qX6_rests_49, qX6_rests_52, qX6_rests_55, qX6_rests_56, qX6_rests_57, qX6_rests_60, qX6_rests_61, qX6_rests_64, qX6_rests_67, qX6_rests_68, qX6_rests_71, qX6_rests_72, qX6_rests_73, qX6_rests_76, qX6_rests_77, qX6_rests_80, qX6_rests_81, qX6_rests_84, qX6_rests_87, qX6_rests_90, qX6_rests_91, qX6_rests_93, qX6_rests_96, qX6_rests_97, qX6_rests_100, qX6_rests_101, qX6_rests_104, qX6_rests_105, qX6_rests_108, qX6_rests_111, qX6_rests_114, qX6_rests_117, qX6_rests_118, qX6_rests_121, qX6_rests_124, hlo, if_true]
        · have hge : ¬ i < nI n := fun q => by
            have hm : ¬ i ≤ -1 := fun q => hr ⟨Int32.not_lt.mp hlo, q⟩
            unfold hasF at hz
            have h0 : ¬ i < 0 := fun q => hm (by rw [Int32.le_iff_toInt_le, show (-1 : Int32).toInt = -1 from rfl]; have := Int32.lt_iff_toInt_lt.mp q; rw [show (0 : Int32).toInt = 0 from rfl] at this; omega)
            rw [if_neg h0, if_neg (Int32.not_le.mpr q)] at hz
            exact absurd hz (by decide)
          simp only [qX6_rests_0, qX6_rests_1, qX6_rests_3, qX6_rests_6, qX6_rests_7, qX6_rests_8, qX6_rests_11, qX6_rests_14, qX6_rests_17, qX6_rests_19, qX6_rests_20, qX6_rests_21, qX6_rests_24, qX6_rests_25, qX6_rests_28, qX6_rests_29, qX6_rests_32, qX6_rests_35, qX6_rests_38, qX6_rests_41, qX6_rests_42, qX6_rests_43, qX6_rests_44, qX6_rests_45, qX6_rests_48, qX6_rests_49, qX6_rests_52, qX6_rests_55, qX6_rests_56, qX6_rests_57, qX6_rests_60, qX6_rests_61, qX6_rests_64, qX6_rests_67, qX6_rests_68, qX6_rests_71, qX6_rests_72, qX6_rests_73, qX6_rests_76, qX6_rests_77, qX6_rests_80, qX6_rests_81, qX6_rests_84, qX6_rests_87, qX6_rests_90, qX6_rests_91, qX6_rests_93, qX6_rests_96, qX6_rests_97, qX6_rests_100, qX6_rests_101, qX6_rests_104, qX6_rests_105, qX6_rests_108, qX6_rests_111, qX6_rests_114, qX6_rests_117, qX6_rests_118, qX6_rests_121, qX6_rests_124, c8, hlo, hge, if_false]
      · have hh : ¬ ((-3 : Int64) ≤ i.toInt64 ∧ i.toInt64 ≤ -1) := fun q => hr ⟨(i2l_le (-3) i).mp q.1, (i2l_le i (-1)).mp q.2⟩
        rw [in_X7_rests]
        simp only [qX7_rests_0, qX7_rests_1, qX7_rests_2, qX7_rests_5, qX7_rests_8, qX7_rests_11, qX7_rests_14, qX7_rests_15, qX7_rests_16, qX7_rests_19, qX7_rests_22, qX7_rests_24, qX7_rests_25, qX7_rests_26, qX7_rests_29, qX7_rests_30, qX7_rests_31, qX7_rests_32, qX7_rests_35, qX7_rests_36, qX7_rests_39, qX7_rests_40, qX7_rests_42, qX7_rests_45, qX7_rests_46, qX7_rests_49, qX7_rests_52, qX7_rests_53, qX7_rests_55, qX7_rests_58, qX7_rests_59, qX7_rests_62, qX7_rests_65, qX7_rests_66, qX7_rests_69, qX7_rests_70, qX7_rests_71, qX7_rests_72, qX7_rests_73, qX7_rests_76, qX7_rests_77, qX7_rests_80, qX7_rests_81, qX7_rests_84, qX7_rests_85, s_Min, hh, if_false, if_true, s_MisLetter (show n < 2 ^ 31 by omega) m3, hz, Option.toList, List.cons_append, List.nil_append]
  · obtain ⟨l, hl, rfl⟩ := hasF_1 (by omega) hz
    have hl7 : l < 7 := by omega
    have q0 : ¬ nI l < 0 := nI_neg (by omega)
    have q1 : ¬ nI l < -3 := fun q => q0 (Int32.lt_trans q (by decide))
    have q2 : nI l < nI n := nI_lt hl (by omega)
    have qn : ∀ x : Int32, x < 0 → ¬ nI l = x := fun x hx e => q0 (by rw [e]; exact hx)
    have hh : ¬ ((-3 : Int64) ≤ (nI l).toInt64 ∧ (nI l).toInt64 ≤ -1) := fun q => q0 (Int32.lt_of_le_of_lt ((i2l_le (nI l) (-1)).mp q.2) (by decide))
    refine rests_go hI h1 (fun d P => ?_) (fun d P => ?_) (fun R τ ν hR e1 e2 e3 => ⟨τ.1 27 l, ν.1 7 l, τ, ν, fun _ _ => rfl, fun _ _ _ _ => rfl, fun hlt => (e3 hlt).2 l hl, fun d P => ?_, fun d P => ?_⟩)
    · simp only [qX6_rests_0, qX6_rests_1, qX6_rests_3, qX6_rests_6, qX6_rests_7, qX6_rests_8, qX6_rests_11, qX6_rests_14, qX6_rests_17, qX6_rests_19, qX6_rests_21, qX6_rests_24, qX6_rests_25, qX6_rests_28, qX6_rests_29, qX6_rests_32, qX6_rests_35, qX6_rests_38, qX6_rests_41, qX6_rests_42, qX6_rests_43, qX6_rests_44, qX6_rests_45, qX6_rests_48, qX6_rests_49, qX6_rests_52, qX6_rests_55, qX6_rests_56, qX6_rests_57, qX6_rests_60, qX6_rests_61, qX6_rests_64, qX6_rests_67, qX6_rests_68, qX6_rests_71, qX6_rests_72, qX6_rests_73, qX6_rests_76, qX6_rests_77, qX6_rests_80, qX6_rests_81, qX6_rests_84, qX6_rests_87, qX6_rests_90, qX6_rests_91, qX6_rests_93, qX6_rests_96, qX6_rests_97, qX6_rests_100, qX6_rests_101, qX6_rests_104, qX6_rests_105, qX6_rests_108, qX6_rests_111, qX6_rests_114, qX6_rests_117, qX6_rests_118, qX6_rests_121, qX6_rests_124, c8, q1, q2, if_true, if_false]
    · simp only [qX7_rests_0, qX7_rests_1, qX7_rests_2, qX7_rests_5, qX7_rests_8, qX7_rests_11, qX7_rests_14, qX7_rests_15, qX7_rests_16, qX7_rests_19, qX7_rests_22, qX7_rests_24, qX7_rests_26, qX7_rests_29, qX7_rests_30, qX7_rests_31, qX7_rests_32, qX7_rests_35, qX7_rests_36, qX7_rests_39, qX7_rests_40, qX7_rests_42, qX7_rests_45, qX7_rests_46, qX7_rests_49, qX7_rests_52, qX7_rests_53, qX7_rests_55, qX7_rests_58, qX7_rests_59, qX7_rests_62, qX7_rests_65, qX7_rests_66, qX7_rests_69, qX7_rests_70, qX7_rests_71, qX7_rests_72, qX7_rests_73, qX7_rests_76, qX7_rests_77, qX7_rests_80, qX7_rests_81, qX7_rests_84, qX7_rests_85, s_Min, hh, if_true, if_false, s_MisLetter (show n < 2 ^ 31 by omega) m3, hz, Option.toList, List.cons_append, List.nil_append]
    · simp only [qX6_rests_0, qX6_rests_1, qX6_rests_3, qX6_rests_6, qX6_rests_7, qX6_rests_8, qX6_rests_11, qX6_rests_14, qX6_rests_17, qX6_rests_19, qX6_rests_20, qX6_rests_21, qX6_rests_24, qX6_rests_25, qX6_rests_28, qX6_rests_29, qX6_rests_32, qX6_rests_35, qX6_rests_38, qX6_rests_41, qX6_rests_42, qX6_rests_43, qX6_rests_44, qX6_rests_45, qX6_rests_48, qX6_rests_49, qX6_rests_52, qX6_rests_55, qX6_rests_56, qX6_rests_57, qX6_rests_60, qX6_rests_61, qX6_rests_64, qX6_rests_67, qX6_rests_68, qX6_rests_71, qX6_rests_72, qX6_rests_73, qX6_rests_76, qX6_rests_77, qX6_rests_80, qX6_rests_81, qX6_rests_84, qX6_rests_87, qX6_rests_90, qX6_rests_91, qX6_rests_93, qX6_rests_96, qX6_rests_97, qX6_rests_100, qX6_rests_101, qX6_rests_104, qX6_rests_105, qX6_rests_108, qX6_rests_111, qX6_rests_114, qX6_rests_117, qX6_rests_118, qX6_rests_121, qX6_rests_124, qn (-1) (by decide), q0, if_false, s_at (show shC[27]? = some (.inl (.int, 7)) from rfl) (show 7 < 2 ^ 31 by decide), atF_in _ hl7 (show 7 < 2 ^ 31 by decide), Option.toList, List.cons_append, List.nil_append]
    · simp only [qX7_rests_0, qX7_rests_1, qX7_rests_2, qX7_rests_5, qX7_rests_8, qX7_rests_11, qX7_rests_14, qX7_rests_15, qX7_rests_16, qX7_rests_19, qX7_rests_22, qX7_rests_24, qX7_rests_25, qX7_rests_26, qX7_rests_29, qX7_rests_30, qX7_rests_31, qX7_rests_32, qX7_rests_35, qX7_rests_36, qX7_rests_39, qX7_rests_40, qX7_rests_42, qX7_rests_45, qX7_rests_46, qX7_rests_49, qX7_rests_52, qX7_rests_53, qX7_rests_55, qX7_rests_58, qX7_rests_59, qX7_rests_62, qX7_rests_65, qX7_rests_66, qX7_rests_69, qX7_rests_70, qX7_rests_72, qX7_rests_73, qX7_rests_76, qX7_rests_77, qX7_rests_80, qX7_rests_81, qX7_rests_84, qX7_rests_85, qn (-1) (by decide), qn (-2) (by decide), qn (-3) (by decide), if_false, show vp_in (nI l) 7 from vp_in_nI (by omega) (by decide), show (nI l).toNatClampNeg = l from nI_clamp (by omega), true_and]
