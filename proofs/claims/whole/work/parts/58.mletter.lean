/-! THE TEXT: takeLetter -/
section ML
variable {μ : mm_M} {B : Nat → Nat} {T : Nat}
theorem s_MtakeLetter (h : TXM μ B T) {e a1 e1 a2 e2 a3 e3 a4 e4 nl : Nat} {mo : Int32} (hn : nl < 7) (he : e ≤ T) (h15 : μ.1 0 15 = nI e) (h23 : μ.1 0 23 = nI nl) (h20 : μ.1 0 20 - 1 = mo) (x1 : enF_ (isB B) T e = a1) (y1 : enF_ (isF B) T a1 = e1) (x2 : enF_ (isB B) T e1 = a2) (y2 : enF_ (isF B) T a2 = e2) (x3 : enF_ (isB B) T e2 = a3) (y3 : enF_ (isF B) T a3 = e3) (x4 : enF_ (isB B) T e3 = a4) (y4 : enF_ (isF B) T a4 = e4) {b1 b2 b3 b4 : Nat} (hb1 : badN B a1 e1 0 mo = b1) (hb2 : badN B a2 e2 1 99 = b2) (hb3 : badN B a3 e3 0 999 = b3) (hb4 : badN B a4 e4 0 99 = b4) : ∃ ν' : mm_M, (∀ k, k ≠ 0 → k ≠ 11 → k ≠ 12 → k ≠ 13 → k ≠ 14 → ν'.1 k = μ.1 k) ∧ (∀ q, q ≠ 14 → q ≠ 15 → q ≠ 18 → q ≠ 19 → q ≠ 23 → ν'.1 0 q = μ.1 0 q) ∧ (∀ j, j ≠ nl → ν'.1 11 j = μ.1 11 j ∧ ν'.1 12 j = μ.1 12 j ∧ ν'.1 13 j = μ.1 13 j ∧ ν'.1 14 j = μ.1 14 j) ∧ (fR (fR (fR b1 b2) b3) b4 = 0 → ν'.1 0 15 = nI e4 ∧ ν'.1 0 23 = nI (nl + 1) ∧ (ν'.1 11 nl = nI (vlN B a1 (min (e1 - a1) 3)) ∧ ν'.1 12 nl = nI (vlN B a2 (min (e2 - a2) 3)) ∧ ν'.1 13 nl = nI (vlN B a3 (min (e3 - a3) 3)) ∧ ν'.1 14 nl = nI (vlN B a4 (min (e4 - a4) 3))) ∧ ν'.1 0 14 = μ.1 0 14) ∧ (fR (fR (fR b1 b2) b3) b4 ≠ 0 → ν'.1 0 14 = nI (fW (fR (fR b1 b2) b3) (fW (fR b1 b2) (fW b1 a1 a2) a3) a4)) ∧ ∀ (d : Nat) (P : mm_O), mm_run shM (d + 4) 95 [.ref 0] μ P = P (some (.int (nI (fR (fR (fR b1 b2) b3) b4)))) ν' := by
  have l1 := en_b (c := isB B) he
  rw [x1] at l1
  have l2 := en_b (c := isF B) l1.2.1
  rw [y1] at l2
  have l3 := en_b (c := isB B) l2.2.1
  rw [x2] at l3
  have l4 := en_b (c := isF B) l3.2.1
  rw [y2] at l4
  have l5 := en_b (c := isB B) l4.2.1
  rw [x3] at l5
  have l6 := en_b (c := isF B) l5.2.1
  rw [y3] at l6
  have t1 := badN_le (B := B) (a := a1) (e := e1) (least := 0) (most := mo)
  have t2 := badN_le (B := B) (a := a2) (e := e2) (least := 1) (most := 99)
  have t3 := badN_le (B := B) (a := a3) (e := e3) (least := 0) (most := 999)
  rw [hb1] at t1
  rw [hb2] at t2
  rw [hb3] at t3
  have pz : ¬ (¬ nI 0 ≤ 0) := by decide
  generalize hμ1 : mm_set μ 0 (upd (μ.1 0) 23 (nI (nl + 1))) = μ1
  have e0 : ∀ k, k ≠ 0 → μ1.1 k = μ.1 k := fun k hk => by rw [← hμ1, mm_set_ne _ _ hk]
  have eq : ∀ q, q ≠ 23 → μ1.1 0 q = μ.1 0 q := fun q hq => by rw [← hμ1, mm_set_same, upd_1, if_neg hq]
  have e23 : μ1.1 0 23 = nI (nl + 1) := by rw [← hμ1, mm_set_same, upd_1, if_pos rfl]
  have g1 : TXM μ1 B T := h.f2 (e0 8 (by decide)) (eq 13 (by decide))
  have m20 : μ1.1 0 20 - 1 = mo := by rw [eq 20 (by decide)]; exact h20
  obtain ⟨ν, i1, i2, i3, i4, i5, i6⟩ := s_Minto_11 g1 hn he (by rw [eq 15 (by decide)]; exact h15) (least := 0) (most := mo) x1 y1
  rw [hb1] at i4 i5 i6
  have g2 : TXM ν B T := g1.f2 (i1 8 (by decide) (by decide)) (i2 13 (by decide) (by decide) (by decide) (by decide))
  have pre : ∀ (d : Nat) (P : mm_O), mm_run shM (d + 4) 95 [.ref 0] μ P = mm_at shM (d + 3) 95 [] P 32 [.ref 0, .int (nI nl), .int (nI b1)] [] ν := fun d P => by
    rw [in_X7_takeLetter]
    simp only [qX7_takeLetter_0, qX7_takeLetter_1, qX7_takeLetter_4, qX7_takeLetter_5, qX7_takeLetter_6, qX7_takeLetter_7, qX7_takeLetter_10, qX7_takeLetter_11, qX7_takeLetter_12, qX7_takeLetter_15, qX7_takeLetter_16, qX7_takeLetter_17, qX7_takeLetter_20, qX7_takeLetter_21, qX7_takeLetter_22, qX7_takeLetter_23, qX7_takeLetter_26, qX7_takeLetter_27, qX7_takeLetter_28, qX7_takeLetter_31, qX7_takeLetter_33, qX7_takeLetter_36, qX7_takeLetter_37, qX7_takeLetter_40, qX7_takeLetter_41, qX7_takeLetter_42, qX7_takeLetter_45, qX7_takeLetter_46, qX7_takeLetter_47, qX7_takeLetter_49, qX7_takeLetter_52, qX7_takeLetter_53, qX7_takeLetter_54, qX7_takeLetter_57, qX7_takeLetter_58, qX7_takeLetter_61, qX7_takeLetter_62, qX7_takeLetter_63, qX7_takeLetter_66, qX7_takeLetter_67, qX7_takeLetter_68, qX7_takeLetter_71, qX7_takeLetter_74, qX7_takeLetter_75, qX7_takeLetter_76, qX7_takeLetter_79, qX7_takeLetter_80, qX7_takeLetter_83, qX7_takeLetter_84, qX7_takeLetter_85, qX7_takeLetter_88, qX7_takeLetter_89, qX7_takeLetter_90, qX7_takeLetter_92, qX7_takeLetter_95, h23, nI_1, mm_sti_set, hμ1, m20, i6, Option.toList, List.cons_append, List.nil_append]
  by_cases z1 : b1 = 0
  · subst z1
    obtain ⟨c1, c2, c3⟩ := i4 rfl
    obtain ⟨ξ, j1, j2, j3, j4, j5, j6⟩ := s_Minto_12 g2 hn l2.2.1 c1 (least := 1) (most := 99) x2 y2
    rw [hb2] at j4 j5 j6
    have g3 : TXM ξ B T := g2.f2 (j1 8 (by decide) (by decide)) (j2 13 (by decide) (by decide) (by decide) (by decide))
    have pre2 : ∀ (d : Nat) (P : mm_O), mm_run shM (d + 4) 95 [.ref 0] μ P = mm_at shM (d + 3) 95 [] P 53 [.ref 0, .int (nI nl), .int (nI b2)] [] ξ := fun d P => by
      rw [pre]
      simp only [qX7_takeLetter_0, qX7_takeLetter_1, qX7_takeLetter_4, qX7_takeLetter_5, qX7_takeLetter_6, qX7_takeLetter_7, qX7_takeLetter_10, qX7_takeLetter_11, qX7_takeLetter_12, qX7_takeLetter_15, qX7_takeLetter_16, qX7_takeLetter_17, qX7_takeLetter_20, qX7_takeLetter_21, qX7_takeLetter_22, qX7_takeLetter_23, qX7_takeLetter_26, qX7_takeLetter_27, qX7_takeLetter_28, qX7_takeLetter_31, qX7_takeLetter_32, qX7_takeLetter_33, qX7_takeLetter_36, qX7_takeLetter_37, qX7_takeLetter_40, qX7_takeLetter_41, qX7_takeLetter_42, qX7_takeLetter_45, qX7_takeLetter_46, qX7_takeLetter_47, qX7_takeLetter_49, qX7_takeLetter_52, qX7_takeLetter_54, qX7_takeLetter_57, qX7_takeLetter_58, qX7_takeLetter_61, qX7_takeLetter_62, qX7_takeLetter_63, qX7_takeLetter_66, qX7_takeLetter_67, qX7_takeLetter_68, qX7_takeLetter_71, qX7_takeLetter_74, qX7_takeLetter_75, qX7_takeLetter_76, qX7_takeLetter_79, qX7_takeLetter_80, qX7_takeLetter_83, qX7_takeLetter_84, qX7_takeLetter_85, qX7_takeLetter_88, qX7_takeLetter_89, qX7_takeLetter_90, qX7_takeLetter_92, qX7_takeLetter_95, show nI 0 ≤ 0 by decide, if_true, j6, Option.toList, List.cons_append, List.nil_append]
    by_cases z2 : b2 = 0
    · subst z2
      obtain ⟨d1, d2, d3⟩ := j4 rfl
      obtain ⟨ζ, k1, k2, k3, k4, k5, k6⟩ := s_Minto_13 g3 hn l4.2.1 d1 (least := 0) (most := 999) x3 y3
      rw [hb3] at k4 k5 k6
      have g4 : TXM ζ B T := g3.f2 (k1 8 (by decide) (by decide)) (k2 13 (by decide) (by decide) (by decide) (by decide))
      have pre3 : ∀ (d : Nat) (P : mm_O), mm_run shM (d + 4) 95 [.ref 0] μ P = mm_at shM (d + 3) 95 [] P 75 [.ref 0, .int (nI nl), .int (nI b3)] [] ζ := fun d P => by
        rw [pre2]
        simp only [qX7_takeLetter_0, qX7_takeLetter_1, qX7_takeLetter_4, qX7_takeLetter_5, qX7_takeLetter_6, qX7_takeLetter_7, qX7_takeLetter_10, qX7_takeLetter_11, qX7_takeLetter_12, qX7_takeLetter_15, qX7_takeLetter_16, qX7_takeLetter_17, qX7_takeLetter_20, qX7_takeLetter_21, qX7_takeLetter_22, qX7_takeLetter_23, qX7_takeLetter_26, qX7_takeLetter_27, qX7_takeLetter_28, qX7_takeLetter_31, qX7_takeLetter_32, qX7_takeLetter_33, qX7_takeLetter_36, qX7_takeLetter_37, qX7_takeLetter_40, qX7_takeLetter_41, qX7_takeLetter_42, qX7_takeLetter_45, qX7_takeLetter_46, qX7_takeLetter_47, qX7_takeLetter_49, qX7_takeLetter_52, qX7_takeLetter_53, qX7_takeLetter_54, qX7_takeLetter_57, qX7_takeLetter_58, qX7_takeLetter_61, qX7_takeLetter_62, qX7_takeLetter_63, qX7_takeLetter_66, qX7_takeLetter_67, qX7_takeLetter_68, qX7_takeLetter_71, qX7_takeLetter_74, qX7_takeLetter_76, qX7_takeLetter_79, qX7_takeLetter_80, qX7_takeLetter_83, qX7_takeLetter_84, qX7_takeLetter_85, qX7_takeLetter_88, qX7_takeLetter_89, qX7_takeLetter_90, qX7_takeLetter_92, qX7_takeLetter_95, show nI 0 ≤ 0 by decide, if_true, k6, Option.toList, List.cons_append, List.nil_append]
      by_cases z3 : b3 = 0
      · subst z3
        obtain ⟨f1, f2, f3⟩ := k4 rfl
        obtain ⟨η, m1, m2, m3, m4, m5, m6⟩ := s_Minto_14 g4 hn l6.2.1 f1 (least := 0) (most := 99) x4 y4
        rw [hb4] at m4 m5 m6
        show ∃ ν' : mm_M, _ ∧ _ ∧ _ ∧ (b4 = 0 → _) ∧ (b4 ≠ 0 → ν'.1 0 14 = nI a4) ∧ ∀ (d : Nat) (P : mm_O), _ = P (some (.int (nI b4))) ν'
        refine ⟨η, fun k a b c d e => by rw [m1 k a e, k1 k a d, j1 k a c, i1 k a b]; exact e0 k a, fun q a b c d e => by rw [m2 q a b c d, k2 q a b c d, j2 q a b c d, i2 q a b c d]; exact eq q e, fun j hj => ⟨?_, ?_, ?_, ?_⟩, fun hz => ?_, m5, fun d P => ?_⟩
        · rw [m1 11 (by decide) (by decide), k1 11 (by decide) (by decide), j1 11 (by decide) (by decide), i3 j hj, e0 11 (by decide)]
        · rw [m1 12 (by decide) (by decide), k1 12 (by decide) (by decide), j3 j hj, i1 12 (by decide) (by decide), e0 12 (by decide)]
        · rw [m1 13 (by decide) (by decide), k3 j hj, j1 13 (by decide) (by decide), i1 13 (by decide) (by decide), e0 13 (by decide)]
        · rw [m3 j hj, k1 14 (by decide) (by decide), j1 14 (by decide) (by decide), i1 14 (by decide) (by decide), e0 14 (by decide)]
        · obtain ⟨n1, n2, n3⟩ := m4 hz
          refine ⟨n1, ?_, ⟨?_, ?_, ?_, n2⟩, ?_⟩
          · rw [m2 23 (by decide) (by decide) (by decide) (by decide), k2 23 (by decide) (by decide) (by decide) (by decide), j2 23 (by decide) (by decide) (by decide) (by decide), i2 23 (by decide) (by decide) (by decide) (by decide)]; exact e23
          · rw [m1 11 (by decide) (by decide), k1 11 (by decide) (by decide), j1 11 (by decide) (by decide)]; exact c2
          · rw [m1 12 (by decide) (by decide), k1 12 (by decide) (by decide)]; exact d2
          · rw [m1 13 (by decide) (by decide)]; exact f2
          · rw [n3, f3, d3, c3]; exact eq 14 (by decide)
        · rw [pre3]
          simp only [qX7_takeLetter_0, qX7_takeLetter_1, qX7_takeLetter_4, qX7_takeLetter_5, qX7_takeLetter_6, qX7_takeLetter_7, qX7_takeLetter_10, qX7_takeLetter_11, qX7_takeLetter_12, qX7_takeLetter_15, qX7_takeLetter_16, qX7_takeLetter_17, qX7_takeLetter_20, qX7_takeLetter_21, qX7_takeLetter_22, qX7_takeLetter_23, qX7_takeLetter_26, qX7_takeLetter_27, qX7_takeLetter_28, qX7_takeLetter_31, qX7_takeLetter_32, qX7_takeLetter_33, qX7_takeLetter_36, qX7_takeLetter_37, qX7_takeLetter_40, qX7_takeLetter_41, qX7_takeLetter_42, qX7_takeLetter_45, qX7_takeLetter_46, qX7_takeLetter_47, qX7_takeLetter_49, qX7_takeLetter_52, qX7_takeLetter_53, qX7_takeLetter_54, qX7_takeLetter_57, qX7_takeLetter_58, qX7_takeLetter_61, qX7_takeLetter_62, qX7_takeLetter_63, qX7_takeLetter_66, qX7_takeLetter_67, qX7_takeLetter_68, qX7_takeLetter_71, qX7_takeLetter_74, qX7_takeLetter_75, qX7_takeLetter_76, qX7_takeLetter_79, qX7_takeLetter_80, qX7_takeLetter_83, qX7_takeLetter_84, qX7_takeLetter_85, qX7_takeLetter_88, qX7_takeLetter_89, qX7_takeLetter_90, qX7_takeLetter_92, qX7_takeLetter_95, show nI 0 ≤ 0 by decide, if_true, m6, Option.toList, List.cons_append, List.nil_append]
      · have hf : fR (fR (fR 0 0) b3) b4 = b3 := if_neg z3
        have hg : fW (fR (fR 0 0) b3) (fW (fR 0 0) (fW 0 a1 a2) a3) a4 = a3 := if_neg z3
        rw [hf, hg]
        have hpos : ¬ nI b3 ≤ 0 := show ¬ nI _ ≤ nI 0 from nI_ge (by omega) (by omega)
        refine ⟨ζ, fun k a b c d e => by rw [k1 k a d, j1 k a c, i1 k a b]; exact e0 k a, fun q a b c d e => by rw [k2 q a b c d, j2 q a b c d, i2 q a b c d]; exact eq q e, fun j hj => ⟨?_, ?_, ?_, ?_⟩, fun hz => absurd hz z3, fun _ => k5 z3, fun d P => ?_⟩
        · rw [k1 11 (by decide) (by decide), j1 11 (by decide) (by decide), i3 j hj, e0 11 (by decide)]
        · rw [k1 12 (by decide) (by decide), j3 j hj, i1 12 (by decide) (by decide), e0 12 (by decide)]
        · rw [k3 j hj, j1 13 (by decide) (by decide), i1 13 (by decide) (by decide), e0 13 (by decide)]
        · rw [k1 14 (by decide) (by decide), j1 14 (by decide) (by decide), i1 14 (by decide) (by decide), e0 14 (by decide)]
        · rw [pre3]
          simp only [qX7_takeLetter_0, qX7_takeLetter_1, qX7_takeLetter_4, qX7_takeLetter_5, qX7_takeLetter_6, qX7_takeLetter_7, qX7_takeLetter_10, qX7_takeLetter_11, qX7_takeLetter_12, qX7_takeLetter_15, qX7_takeLetter_16, qX7_takeLetter_17, qX7_takeLetter_20, qX7_takeLetter_21, qX7_takeLetter_22, qX7_takeLetter_23, qX7_takeLetter_26, qX7_takeLetter_27, qX7_takeLetter_28, qX7_takeLetter_31, qX7_takeLetter_32, qX7_takeLetter_33, qX7_takeLetter_36, qX7_takeLetter_37, qX7_takeLetter_40, qX7_takeLetter_41, qX7_takeLetter_42, qX7_takeLetter_45, qX7_takeLetter_46, qX7_takeLetter_47, qX7_takeLetter_49, qX7_takeLetter_52, qX7_takeLetter_53, qX7_takeLetter_54, qX7_takeLetter_57, qX7_takeLetter_58, qX7_takeLetter_61, qX7_takeLetter_62, qX7_takeLetter_63, qX7_takeLetter_66, qX7_takeLetter_67, qX7_takeLetter_68, qX7_takeLetter_71, qX7_takeLetter_74, qX7_takeLetter_75, qX7_takeLetter_76, qX7_takeLetter_79, qX7_takeLetter_80, qX7_takeLetter_83, qX7_takeLetter_84, qX7_takeLetter_85, qX7_takeLetter_88, qX7_takeLetter_89, qX7_takeLetter_90, qX7_takeLetter_92, qX7_takeLetter_95, hpos, if_false]
    · have hf : fR (fR (fR 0 b2) b3) b4 = b2 := by
        show fR (fR b2 b3) b4 = b2
        unfold fR
        rw [if_neg z2, if_neg z2]
      have hg : fW (fR (fR 0 b2) b3) (fW (fR 0 b2) (fW 0 a1 a2) a3) a4 = a2 := by
        show fW (fR b2 b3) (fW b2 a2 a3) a4 = a2
        unfold fW fR
        rw [if_neg z2, if_neg z2, if_neg z2]
      rw [hf, hg]
      have hpos : ¬ nI b2 ≤ 0 := show ¬ nI _ ≤ nI 0 from nI_ge (by omega) (by omega)
      refine ⟨ξ, fun k a b c d e => by rw [j1 k a c, i1 k a b]; exact e0 k a, fun q a b c d e => by rw [j2 q a b c d, i2 q a b c d]; exact eq q e, fun j hj => ⟨?_, ?_, ?_, ?_⟩, fun hz => absurd hz z2, fun _ => j5 z2, fun d P => ?_⟩
      · rw [j1 11 (by decide) (by decide), i3 j hj, e0 11 (by decide)]
      · rw [j3 j hj, i1 12 (by decide) (by decide), e0 12 (by decide)]
      · rw [j1 13 (by decide) (by decide), i1 13 (by decide) (by decide), e0 13 (by decide)]
      · rw [j1 14 (by decide) (by decide), i1 14 (by decide) (by decide), e0 14 (by decide)]
      · rw [pre2]
        simp only [qX7_takeLetter_0, qX7_takeLetter_1, qX7_takeLetter_4, qX7_takeLetter_5, qX7_takeLetter_6, qX7_takeLetter_7, qX7_takeLetter_10, qX7_takeLetter_11, qX7_takeLetter_12, qX7_takeLetter_15, qX7_takeLetter_16, qX7_takeLetter_17, qX7_takeLetter_20, qX7_takeLetter_21, qX7_takeLetter_22, qX7_takeLetter_23, qX7_takeLetter_26, qX7_takeLetter_27, qX7_takeLetter_28, qX7_takeLetter_31, qX7_takeLetter_32, qX7_takeLetter_33, qX7_takeLetter_36, qX7_takeLetter_37, qX7_takeLetter_40, qX7_takeLetter_41, qX7_takeLetter_42, qX7_takeLetter_45, qX7_takeLetter_46, qX7_takeLetter_47, qX7_takeLetter_49, qX7_takeLetter_52, qX7_takeLetter_53, qX7_takeLetter_54, qX7_takeLetter_57, qX7_takeLetter_58, qX7_takeLetter_61, qX7_takeLetter_62, qX7_takeLetter_63, qX7_takeLetter_66, qX7_takeLetter_67, qX7_takeLetter_68, qX7_takeLetter_71, qX7_takeLetter_74, qX7_takeLetter_75, qX7_takeLetter_76, qX7_takeLetter_79, qX7_takeLetter_80, qX7_takeLetter_83, qX7_takeLetter_84, qX7_takeLetter_85, qX7_takeLetter_88, qX7_takeLetter_89, qX7_takeLetter_90, qX7_takeLetter_92, qX7_takeLetter_95, hpos, if_false]
  · have hf : fR (fR (fR b1 b2) b3) b4 = b1 := by
      unfold fR
      rw [if_neg z1, if_neg z1, if_neg z1]
    have hg : fW (fR (fR b1 b2) b3) (fW (fR b1 b2) (fW b1 a1 a2) a3) a4 = a1 := by
      unfold fW fR
      rw [if_neg z1, if_neg z1, if_neg z1, if_neg z1, if_neg z1]
    rw [hf, hg]
    have hpos : ¬ nI b1 ≤ 0 := show ¬ nI _ ≤ nI 0 from nI_ge (by omega) (by omega)
    refine ⟨ν, fun k a b c d e => by rw [i1 k a b]; exact e0 k a, fun q a b c d e => by rw [i2 q a b c d]; exact eq q e, fun j hj => ⟨?_, ?_, ?_, ?_⟩, fun hz => absurd hz z1, fun _ => i5 z1, fun d P => ?_⟩
    · rw [i3 j hj, e0 11 (by decide)]
    · rw [i1 12 (by decide) (by decide), e0 12 (by decide)]
    · rw [i1 13 (by decide) (by decide), e0 13 (by decide)]
    · rw [i1 14 (by decide) (by decide), e0 14 (by decide)]
    · rw [pre]
      simp only [qX7_takeLetter_0, qX7_takeLetter_1, qX7_takeLetter_4, qX7_takeLetter_5, qX7_takeLetter_6, qX7_takeLetter_7, qX7_takeLetter_10, qX7_takeLetter_11, qX7_takeLetter_12, qX7_takeLetter_15, qX7_takeLetter_16, qX7_takeLetter_17, qX7_takeLetter_20, qX7_takeLetter_21, qX7_takeLetter_22, qX7_takeLetter_23, qX7_takeLetter_26, qX7_takeLetter_27, qX7_takeLetter_28, qX7_takeLetter_31, qX7_takeLetter_32, qX7_takeLetter_33, qX7_takeLetter_36, qX7_takeLetter_37, qX7_takeLetter_40, qX7_takeLetter_41, qX7_takeLetter_42, qX7_takeLetter_45, qX7_takeLetter_46, qX7_takeLetter_47, qX7_takeLetter_49, qX7_takeLetter_52, qX7_takeLetter_53, qX7_takeLetter_54, qX7_takeLetter_57, qX7_takeLetter_58, qX7_takeLetter_61, qX7_takeLetter_62, qX7_takeLetter_63, qX7_takeLetter_66, qX7_takeLetter_67, qX7_takeLetter_68, qX7_takeLetter_71, qX7_takeLetter_74, qX7_takeLetter_75, qX7_takeLetter_76, qX7_takeLetter_79, qX7_takeLetter_80, qX7_takeLetter_83, qX7_takeLetter_84, qX7_takeLetter_85, qX7_takeLetter_88, qX7_takeLetter_89, qX7_takeLetter_90, qX7_takeLetter_92, qX7_takeLetter_95, hpos, if_false]
end ML
