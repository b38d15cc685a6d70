/-! CALLS: answer, the reference's side -/
def abM (c : Int32) (μ : mm_M) (n : Nat) (s : Nat → Int32) (l : Nat) : Nat := asG (cmM μ n) (μ.1 5) (μ.1 6) c s l
theorem Mans_loop {μ : mm_M} {n l : Nat} (hT : okM μ n) (hl : l < n) : ∀ (j v : Nat) (ν : mm_M) (a6 a7 : Value), j + v = 10 → (∀ k, k ≠ 7 → k ≠ 15 → k ≠ 16 → k ≠ 17 → ν.1 k = μ.1 k) → (∃ x, ν.1 7 = upd (μ.1 7) l x) → ∃ ν' : mm_M, (∀ k, k ≠ 15 → k ≠ 16 → k ≠ 17 → ν'.1 k = μ.1 k) ∧ ∀ (d : Nat) (P : mm_O), mm_at shM (d + 5) 126 [] P 17 [.ref 0, .int (nI l), .int (μ.1 7 l), .int (nI (bzF (hdG (cmM μ n) (μ.1 5) (μ.1 6) (μ.1 0 9) (μ.1 7) l) v).1), .int (bzF (hdG (cmM μ n) (μ.1 5) (μ.1 6) (μ.1 0 9) (μ.1 7) l) v).2, .int (nI v), a6, a7] [] ν = P (some (.int (nI (abM (μ.1 0 9) μ n (μ.1 7) l)))) ν' := by
  have hn := hT.2.1
  have hl7 : vp_in (nI l) 7 := vp_in_nI (by omega) (by decide)
  have hlc : (nI l).toNatClampNeg = l := nI_clamp (by omega)
  generalize hh : hdG (cmM μ n) (μ.1 5) (μ.1 6) (μ.1 0 9) (μ.1 7) l = h
  intro j
  induction j with
  | zero =>
    intro v ν a6 a7 hv k1 ⟨x, k2⟩
    have hv : v = 10 := by omega
    subst hv
    refine ⟨mm_set ν 7 (upd (ν.1 7) l (μ.1 7 l)), fun k a b c => ?_, fun d P => ?_⟩
    · rw [mm_set_1]
      by_cases h7 : k = 7
      · subst h7
        rw [if_pos rfl, k2, upd_upd, upd_self]
      · rw [if_neg h7]; exact k1 k h7 a b c
    · rw [show abM (μ.1 0 9) μ n (μ.1 7) l = (bzF h 10).1 by unfold abM asG; rw [hh], qX7_answerOf_17]
      simp only [qX7_answerOf_0, qX7_answerOf_1, qX7_answerOf_4, qX7_answerOf_5, qX7_answerOf_6, qX7_answerOf_7, qX7_answerOf_8, qX7_answerOf_9, qX7_answerOf_12, qX7_answerOf_14, qX7_answerOf_15, qX7_answerOf_19, qX7_answerOf_21, qX7_answerOf_24, qX7_answerOf_25, qX7_answerOf_28, qX7_answerOf_29, qX7_answerOf_31, qX7_answerOf_32, qX7_answerOf_33, qX7_answerOf_36, qX7_answerOf_38, qX7_answerOf_39, qX7_answerOf_40, qX7_answerOf_43, qX7_answerOf_45, qX7_answerOf_47, qX7_answerOf_49, qX7_answerOf_52, qX7_answerOf_54, qX7_answerOf_57, qX7_answerOf_58, qX7_answerOf_59, qX7_answerOf_61, qX7_answerOf_63, qX7_answerOf_66, qX7_answerOf_68, qX7_answerOf_71, qX7_answerOf_73, qX7_answerOf_75, qX7_answerOf_78, qX7_answerOf_81, qX7_answerOf_82, qX7_answerOf_85, qX7_answerOf_86, qX7_answerOf_87, qX7_answerOf_88, qX7_answerOf_89, show (9 : Int32) < nI 10 by decide, if_true, hl7, hlc, true_and, mm_sti_set]
  | succ j ih =>
    intro v ν a6 a7 hv k1 ⟨x, k2⟩
    have h1 : ¬ (9 : Int32) < nI v := show ¬ nI 9 < nI v from nI_nlt (by omega) (by decide)
    generalize hν1 : mm_set ν 7 (upd (ν.1 7) l (nI v)) = ν1
    have e1 : ∀ k, k ≠ 7 → k ≠ 15 → k ≠ 16 → k ≠ 17 → ν1.1 k = μ.1 k := fun k a b c d => by rw [← hν1, mm_set_ne _ _ a]; exact k1 k a b c d
    have e2 : ν1.1 7 = upd (μ.1 7) l (nI v) := by rw [← hν1, mm_set_same, k2, upd_upd]
    have hT1 : okM ν1 n := by
      unfold okM
      rw [e1 0 (by decide) (by decide) (by decide) (by decide), e1 3 (by decide) (by decide) (by decide) (by decide)]
      exact hT
    have f1 := fun (d : Nat) (P : mm_O) => s_MwalkNow (d := d) (P := P) hT1
    have f2 := fun (d : Nat) (P : mm_O) => s_MhadOf (d := d) (P := P) (μ := wnF ν1 n) (l := l) (by omega)
    have e5 : hadM (wnF ν1 n) l = h v := by
      unfold hadM
      rw [wnF_c hl, wnF_o (k := 5) (by decide) (by decide) (by decide), wnF_o (k := 6) (by decide) (by decide) (by decide), wnF_o (k := 0) (by decide) (by decide) (by decide), wnF_o (k := 7) (by decide) (by decide) (by decide), comeM_cm]
      unfold cmM
      rw [e2, e1 0 (by decide) (by decide) (by decide) (by decide), e1 1 (by decide) (by decide) (by decide) (by decide), e1 2 (by decide) (by decide) (by decide) (by decide), e1 3 (by decide) (by decide) (by decide) (by decide), e1 4 (by decide) (by decide) (by decide) (by decide), e1 5 (by decide) (by decide) (by decide) (by decide), e1 6 (by decide) (by decide) (by decide) (by decide), upd_1, if_pos rfl, ← hh]
      rfl
    rw [e5] at f2
    obtain ⟨ν', i1, i2⟩ := ih (v + 1) (wnF ν1 n) (.int (WM ν1 n n)) (.int (h v)) (by omega) (fun k a b c d => by rw [wnF_o b c d]; exact e1 k a b c d) ⟨nI v, by rw [wnF_o (by decide) (by decide) (by decide), e2]⟩
    refine ⟨ν', i1, fun d P => ?_⟩
    rw [← i2 d P, qX7_answerOf_17]
    simp only [qX7_answerOf_0, qX7_answerOf_1, qX7_answerOf_4, qX7_answerOf_5, qX7_answerOf_6, qX7_answerOf_7, qX7_answerOf_8, qX7_answerOf_9, qX7_answerOf_12, qX7_answerOf_14, qX7_answerOf_15, qX7_answerOf_19, qX7_answerOf_21, qX7_answerOf_24, qX7_answerOf_25, qX7_answerOf_28, qX7_answerOf_29, qX7_answerOf_31, qX7_answerOf_32, qX7_answerOf_33, qX7_answerOf_36, qX7_answerOf_38, qX7_answerOf_39, qX7_answerOf_40, qX7_answerOf_43, qX7_answerOf_45, qX7_answerOf_47, qX7_answerOf_49, qX7_answerOf_52, qX7_answerOf_54, qX7_answerOf_57, qX7_answerOf_58, qX7_answerOf_59, qX7_answerOf_61, qX7_answerOf_63, qX7_answerOf_66, qX7_answerOf_68, qX7_answerOf_71, qX7_answerOf_73, qX7_answerOf_75, qX7_answerOf_78, qX7_answerOf_81, qX7_answerOf_82, qX7_answerOf_85, qX7_answerOf_86, qX7_answerOf_87, qX7_answerOf_88, qX7_answerOf_89, h1, if_false, hl7, hlc, true_and, mm_sti_set, hν1, f1, f2, Option.toList, List.cons_append, List.nil_append]
    by_cases hlt : (bzF h v).2 < h v
    · have hle : ¬ h v ≤ (bzF h v).2 := Int32.not_le.mpr hlt
      simp only [qX7_answerOf_0, qX7_answerOf_1, qX7_answerOf_4, qX7_answerOf_5, qX7_answerOf_6, qX7_answerOf_7, qX7_answerOf_8, qX7_answerOf_9, qX7_answerOf_12, qX7_answerOf_14, qX7_answerOf_15, qX7_answerOf_19, qX7_answerOf_21, qX7_answerOf_24, qX7_answerOf_25, qX7_answerOf_28, qX7_answerOf_29, qX7_answerOf_31, qX7_answerOf_32, qX7_answerOf_33, qX7_answerOf_36, qX7_answerOf_38, qX7_answerOf_39, qX7_answerOf_40, qX7_answerOf_43, qX7_answerOf_45, qX7_answerOf_47, qX7_answerOf_49, qX7_answerOf_52, qX7_answerOf_54, qX7_answerOf_57, qX7_answerOf_58, qX7_answerOf_59, qX7_answerOf_61, qX7_answerOf_63, qX7_answerOf_66, qX7_answerOf_68, qX7_answerOf_71, qX7_answerOf_73, qX7_answerOf_75, qX7_answerOf_78, qX7_answerOf_81, qX7_answerOf_82, qX7_answerOf_85, qX7_answerOf_86, qX7_answerOf_87, qX7_answerOf_88, qX7_answerOf_89, bzF, hlt, hle, if_true, if_false, nI_1]
    · have hle : h v ≤ (bzF h v).2 := Int32.not_lt.mp hlt
      simp only [qX7_answerOf_0, qX7_answerOf_1, qX7_answerOf_4, qX7_answerOf_5, qX7_answerOf_6, qX7_answerOf_7, qX7_answerOf_8, qX7_answerOf_9, qX7_answerOf_12, qX7_answerOf_14, qX7_answerOf_15, qX7_answerOf_19, qX7_answerOf_21, qX7_answerOf_24, qX7_answerOf_25, qX7_answerOf_28, qX7_answerOf_29, qX7_answerOf_31, qX7_answerOf_32, qX7_answerOf_33, qX7_answerOf_36, qX7_answerOf_38, qX7_answerOf_39, qX7_answerOf_40, qX7_answerOf_43, qX7_answerOf_45, qX7_answerOf_47, qX7_answerOf_49, qX7_answerOf_52, qX7_answerOf_54, qX7_answerOf_57, qX7_answerOf_58, qX7_answerOf_59, qX7_answerOf_61, qX7_answerOf_63, qX7_answerOf_66, qX7_answerOf_68, qX7_answerOf_71, qX7_answerOf_73, qX7_answerOf_75, qX7_answerOf_78, qX7_answerOf_81, qX7_answerOf_82, qX7_answerOf_85, qX7_answerOf_86, qX7_answerOf_87, qX7_answerOf_88, qX7_answerOf_89, bzF, hlt, hle, if_true, if_false, nI_1]
theorem s_ManswerOf {μ : mm_M} {n l : Nat} (hT : okM μ n) (hl : l < n) : ∃ ν' : mm_M, (∀ k, k ≠ 15 → k ≠ 16 → k ≠ 17 → ν'.1 k = μ.1 k) ∧ ∀ (d : Nat) (P : mm_O), mm_run shM (d + 6) 126 [.ref 0, .int (nI l)] μ P = P (some (.int (nI (abM (μ.1 0 9) μ n (μ.1 7) l)))) ν' := by
  have hn := hT.2.1
  have hl7 : vp_in (nI l) 7 := vp_in_nI (by omega) (by decide)
  have hlc : (nI l).toNatClampNeg = l := nI_clamp (by omega)
  obtain ⟨ν', i1, i2⟩ := Mans_loop hT hl 10 0 μ .null .null (by omega) (fun _ _ _ _ _ => rfl) ⟨μ.1 7 l, (upd_self _ _).symm⟩
  refine ⟨ν', i1, fun d P => ?_⟩
  rw [← i2 d P, in_X7_answerOf]
  simp only [qX7_answerOf_0, qX7_answerOf_1, qX7_answerOf_4, qX7_answerOf_5, qX7_answerOf_6, qX7_answerOf_7, qX7_answerOf_8, qX7_answerOf_9, qX7_answerOf_12, qX7_answerOf_14, qX7_answerOf_15, qX7_answerOf_19, qX7_answerOf_21, qX7_answerOf_24, qX7_answerOf_25, qX7_answerOf_28, qX7_answerOf_29, qX7_answerOf_31, qX7_answerOf_32, qX7_answerOf_33, qX7_answerOf_36, qX7_answerOf_38, qX7_answerOf_39, qX7_answerOf_40, qX7_answerOf_43, qX7_answerOf_45, qX7_answerOf_47, qX7_answerOf_49, qX7_answerOf_52, qX7_answerOf_54, qX7_answerOf_57, qX7_answerOf_58, qX7_answerOf_59, qX7_answerOf_61, qX7_answerOf_63, qX7_answerOf_66, qX7_answerOf_68, qX7_answerOf_71, qX7_answerOf_73, qX7_answerOf_75, qX7_answerOf_78, qX7_answerOf_81, qX7_answerOf_82, qX7_answerOf_85, qX7_answerOf_86, qX7_answerOf_87, qX7_answerOf_88, qX7_answerOf_89, hl7, hlc, true_and]
  rfl
/-- the same minutes on both sides, for stones that are the same -/
theorem TwR.cm {σ μ : mm_M} {n np : Nat} (h : TwR σ μ n np) {s s' : Nat → Int32} (hs : ∀ i, i < n → s i = s' i) {l : Nat} (hl : l < n) : cmC σ n s l = cmM μ n s' l := by
  have ho : ∀ k, ordF (fun i => σ.1 15 i + s i) n (σ.1 11 10) k = ordF (fun i => μ.1 4 i + s' i) n (μ.1 0 10) k := fun k => by
    rw [h.law]
    exact ordF_congr (fun i hi => by rw [(h.2.2.2.1 i hi).1.2.1, hs i hi]) k
  unfold cmC cmM cmG
  rw [rkF_congr ho n l]
  refine wlkF_congr h.np0 (fun p hp => ⟨(h.2.2.1 p hp).1, (h.2.2.1 p hp).2.1⟩) (fun l hl => (h.gl hl).2) (fun k hk => ⟨ord_lt hk, ho k⟩) _ ?_
  have hlt : rkF (ordF (fun i => μ.1 4 i + s' i) n (μ.1 0 10)) n l < n := by
    obtain ⟨k, hk, e⟩ := ord_onto (hv := fun i => μ.1 4 i + s' i) (law := μ.1 0 10) hl
    rw [← e, rkF_at (fun a b ha hb => ord_inj ha hb) hk]
    exact hk
  omega
theorem TwR.ab {σ μ : mm_M} {n np : Nat} (h : TwR σ μ n np) {s s' : Nat → Int32} (hs : ∀ i, i < n → s i = s' i) {l : Nat} (hl : l < n) (c : Int32) : abC c σ n s l = abM c μ n s' l := by
  unfold abC abM asG
  rw [bzF_congr 10]
  intro v hv
  obtain ⟨⟨-, -, r3, r4, -⟩, -⟩ := h.2.2.2.1 l hl
  unfold hdG
  rw [h.cm (s' := upd s' l (nI v)) (fun i hi => by rw [upd_1, upd_1, hs i hi]) hl, r3, r4]
theorem call_answer (i : Int32) : Call 60 127 [.int i] := by
  intro σ μ h
  have hI := h
  obtain ⟨n, np, h1, h2, h3, h4, h5, h6, h7⟩ := h
  have hn := h1.2.1.2.2
  have c8 := h1.2.1.1
  have m3 := h1.2.1.2.1
  by_cases hz : hasF (nI n) i = 0
  · refine ⟨-1000000001, σ, μ, hI, fun d P => ?_, fun d P => ?_⟩
    · rw [in_X6_answer]
      simp only [qX6_answer_0, qX6_answer_1, qX6_answer_4, qX6_answer_5, qX6_answer_8, qX6_answer_11, qX6_answer_13, qX6_answer_14, qX6_answer_15, qX6_answer_18, qX6_answer_19, qX6_answer_22, qX6_answer_25, qX6_answer_26, qX6_answer_29, qX6_answer_30, qX6_answer_33, qX6_answer_34, qX6_answer_35, qX6_answer_38, qX6_answer_41, qX6_answer_44, s_hasLetter, c8, hz, if_true, Option.toList, List.cons_append, List.nil_append]
    · rw [in_X7_answer]
      simp only [qX7_answer_0, qX7_answer_1, qX7_answer_2, qX7_answer_5, qX7_answer_8, qX7_answer_9, qX7_answer_10, qX7_answer_13, qX7_answer_16, qX7_answer_18, s_MisLetter (show n < 2 ^ 31 by omega) m3, hz, if_true, Option.toList, List.cons_append, List.nil_append]
  · obtain ⟨l, hl, rfl⟩ := hasF_1 (by omega) hz
    obtain ⟨-, -, -, -, ⟨w, hw1, hw2, hw⟩, -⟩ := h1.2.2.2.1 l hl
    obtain ⟨c, hc1, hc2, hc⟩ := h1.2.2.2.2.1.2
    have c9 := h1.2.2.2.2.1.1
    have f0 := fun (d : Nat) (P : mm_O) => s_copyRow (d := d) (P := P) (σ := σ) (a := 18) (b := 27) (n := 7) rfl rfl (by decide) (by decide)
    generalize hτ : mm_set σ 27 (fun i => if i < 7 then σ.1 18 i else σ.1 27 i) = τ
    have e1 : ∀ k, k ≠ 26 → k ≠ 27 → τ.1 k = σ.1 k := fun k a b => by rw [← hτ]; simp [mm_sti_set, mm_set_1, a, b]
    have e2 : ∀ k, k < 7 → τ.1 27 k = σ.1 18 k := fun k hk => by rw [← hτ]; simp [mm_sti_set, mm_set_1, hk]
    have ag0 : AgC σ τ := fun k hk => e1 k (by omega) (by omega)
    have hTw : TwR τ μ n np := h1.ag ag0 (AgM.rf μ)
    obtain ⟨τ', i1, i2⟩ := s_bestStones (σ := τ) (n := n) (l := l) (c := c) (w := w) hTw.okT hl (by rw [e1 17 (by decide) (by decide)]; exact hw) hw2 hc2
    obtain ⟨ν', j1, j2⟩ := s_ManswerOf (μ := μ) (l := l) h1.okM hl
    have e : abC (nI c) τ n (τ.1 27) l = abM (μ.1 0 9) μ n (μ.1 7) l := by
      rw [hTw.ab (s' := μ.1 7) (fun i hi => by rw [e2 i (by omega)]; exact (h1.2.2.2.1 i hi).1.2.2.2.2) hl, ← c9, hc]
    refine ⟨nI (abM (μ.1 0 9) μ n (μ.1 7) l), τ', ν', hI.ag (ag0.tr fun k hk => i1 k (by omega)) ⟨fun k hk => j1 k (by omega) (by omega) (by omega), fun j _ => by rw [j1 0 (by decide) (by decide) (by decide)]⟩, fun d P => ?_, fun d P => ?_⟩
    · rw [in_X6_answer]
      simp only [qX6_answer_0, qX6_answer_1, qX6_answer_4, qX6_answer_5, qX6_answer_8, qX6_answer_11, qX6_answer_13, qX6_answer_14, qX6_answer_15, qX6_answer_18, qX6_answer_19, qX6_answer_22, qX6_answer_25, qX6_answer_26, qX6_answer_29, qX6_answer_30, qX6_answer_33, qX6_answer_34, qX6_answer_35, qX6_answer_38, qX6_answer_41, qX6_answer_44, s_hasLetter, c8, hz, if_false, Option.toList, List.cons_append, List.nil_append]
      rw [in_X4_begin]
      simp only [qX4_begin_0, qX4_begin_1a, qX4_begin_1b, qX4_begin_4, qX4_begin_5, qX4_begin_8, qX4_begin_11, qX6_answer_0, qX6_answer_1, qX6_answer_4, qX6_answer_5, qX6_answer_8, qX6_answer_11, qX6_answer_13, qX6_answer_14, qX6_answer_15, qX6_answer_18, qX6_answer_19, qX6_answer_22, qX6_answer_25, qX6_answer_26, qX6_answer_29, qX6_answer_30, qX6_answer_33, qX6_answer_34, qX6_answer_35, qX6_answer_38, qX6_answer_41, qX6_answer_44, f0, hτ, Option.toList, List.cons_append, List.nil_append]
      rw [e1 11 (by decide) (by decide), hc, i2 (d + 33), e]
      simp only [qX6_answer_0, qX6_answer_1, qX6_answer_4, qX6_answer_5, qX6_answer_8, qX6_answer_11, qX6_answer_13, qX6_answer_14, qX6_answer_15, qX6_answer_18, qX6_answer_19, qX6_answer_22, qX6_answer_25, qX6_answer_26, qX6_answer_29, qX6_answer_30, qX6_answer_33, qX6_answer_34, qX6_answer_35, qX6_answer_38, qX6_answer_41, qX6_answer_44, Option.toList, List.cons_append, List.nil_append]
    · rw [in_X7_answer]
      simp only [qX7_answer_0, qX7_answer_1, qX7_answer_2, qX7_answer_5, qX7_answer_8, qX7_answer_9, qX7_answer_10, qX7_answer_13, qX7_answer_16, qX7_answer_18, s_MisLetter (show n < 2 ^ 31 by omega) m3, hz, if_false, j2, Option.toList, List.cons_append, List.nil_append]
