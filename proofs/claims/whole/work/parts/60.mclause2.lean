/-! THE TEXT: the reference's three clauses, through -/
section MC2
variable {μ : mm_M} {B : Nat → Nat} {T : Nat}
theorem Mfails {μ : mm_M} {r w : Int32} {d : Nat} {P : mm_O} : mm_run shM (d + 1) 89 [.ref 0, .int r, .int w] μ P = P (some (.int r)) (mm_sti μ 0 14 w) := by
  rw [in_X7_fails]
  simp only [qX7_fails_0, qX7_fails_1, qX7_fails_2, qX7_fails_5, qX7_fails_6]
theorem s_Mplace (h : TXM μ B T) {p e a1 e1 a2 e2 a3 np : Nat} (he : e ≤ T) (hnp : np ≤ 7) (h15 : μ.1 0 15 = nI p) (h17 : μ.1 0 17 = nI e) (h20 : μ.1 0 20 = nI np) (x1 : enF_ (isB B) T e = a1) (y1 : enF_ (isF B) T a1 = e1) (x2 : enF_ (isB B) T e1 = a2) (y2 : enF_ (isF B) T a2 = e2) (x3 : enF_ (isB B) T e2 = a3) {r w : Nat} (hr : fR (fR (fR (b0N np) (badN B a1 e1 0 99)) (badN B a2 e2 0 99)) (endB B T a3) = r) (hw : fW (fR (fR (b0N np) (badN B a1 e1 0 99)) (badN B a2 e2 0 99)) (fW (fR (b0N np) (badN B a1 e1 0 99)) (fW (b0N np) p a1) a2) a3 = w) : ∃ ν' : mm_M, (∀ k, k ≠ 0 → k ≠ 9 → k ≠ 10 → ν'.1 k = μ.1 k) ∧ (∀ q, q ≠ 14 → q ≠ 15 → q ≠ 18 → q ≠ 19 → q ≠ 20 → ν'.1 0 q = μ.1 0 q) ∧ (∀ j, j ≠ np → ν'.1 9 j = μ.1 9 j ∧ ν'.1 10 j = μ.1 10 j) ∧ (r = 0 → ν'.1 0 15 = nI (a3 + 1) ∧ ν'.1 0 20 = nI (np + 1) ∧ ν'.1 9 np = nI (vlN B a1 (min (e1 - a1) 3)) ∧ ν'.1 10 np = nI (vlN B a2 (min (e2 - a2) 3)) ∧ ν'.1 0 14 = μ.1 0 14) ∧ (r ≠ 0 → ν'.1 0 14 = nI w) ∧ ∀ (d : Nat) (P : mm_O), mm_at shM (d + 5) 96 [] P 93 [.ref 0, .int 0, .null] [] μ = P (some (.int (nI r))) ν' := by
  have l1 := en_b (c := isB B) he
  rw [x1] at l1
  have l2 := en_b (c := isF B) l1.2.1
  rw [y1] at l2
  have l3 := en_b (c := isB B) l2.2.1
  rw [x2] at l3
  have l4 := en_b (c := isF B) l3.2.1
  rw [y2] at l4
  by_cases hc : 7 ≤ np
  · have hn : np = 7 := by omega
    subst hn
    have r3 : r = 3 := hr.symm.trans rfl
    have wp : w = p := hw.symm.trans rfl
    subst r3
    subst wp
    refine ⟨mm_sti μ 0 14 (nI w), fun k a _ _ => by rw [mm_sti_set, mm_set_ne _ _ a], fun q a _ _ _ _ => by rw [mm_sti_set, mm_set_same, upd_1, if_neg a], fun j _ => ⟨by rw [mm_sti_set, mm_set_ne _ _ (by decide)], by rw [mm_sti_set, mm_set_ne _ _ (by decide)]⟩, fun h => absurd h (by decide), fun _ => by rw [mm_sti_set, mm_set_same, upd_1, if_pos rfl], fun d P => ?_⟩
    simp only [qX7_takeClause_0, qX7_takeClause_1, qX7_takeClause_4, qX7_takeClause_5, qX7_takeClause_8, qX7_takeClause_10, qX7_takeClause_12, qX7_takeClause_14, qX7_takeClause_16, qX7_takeClause_18, qX7_takeClause_21, qX7_takeClause_22, qX7_takeClause_25, qX7_takeClause_26, qX7_takeClause_29, qX7_takeClause_30, qX7_takeClause_33, qX7_takeClause_36, qX7_takeClause_38, qX7_takeClause_40, qX7_takeClause_42, qX7_takeClause_44, qX7_takeClause_46, qX7_takeClause_49, qX7_takeClause_50, qX7_takeClause_53, qX7_takeClause_54, qX7_takeClause_57, qX7_takeClause_58, qX7_takeClause_59, qX7_takeClause_62, qX7_takeClause_63, qX7_takeClause_66, qX7_takeClause_67, qX7_takeClause_70, qX7_takeClause_72, qX7_takeClause_74, qX7_takeClause_76, qX7_takeClause_78, qX7_takeClause_80, qX7_takeClause_83, qX7_takeClause_84, qX7_takeClause_87, qX7_takeClause_88, qX7_takeClause_91, qX7_takeClause_92, qX7_takeClause_93, qX7_takeClause_94, qX7_takeClause_97, qX7_takeClause_98, qX7_takeClause_99, qX7_takeClause_100, qX7_takeClause_103, qX7_takeClause_106, qX7_takeClause_107, qX7_takeClause_108, qX7_takeClause_111, qX7_takeClause_112, qX7_takeClause_115, qX7_takeClause_117, qX7_takeClause_120, qX7_takeClause_123, qX7_takeClause_124, qX7_takeClause_125, qX7_takeClause_128, qX7_takeClause_129, qX7_takeClause_132, qX7_takeClause_134, qX7_takeClause_137, qX7_takeClause_140, qX7_takeClause_141, qX7_takeClause_144, qX7_takeClause_147, qX7_takeClause_148, qX7_takeClause_149, qX7_takeClause_150, qX7_takeClause_153, qX7_takeClause_156, qX7_takeClause_157, qX7_takeClause_158, qX7_takeClause_159, qX7_takeClause_162, qX7_takeClause_165, qX7_takeClause_166, qX7_takeClause_167, qX7_takeClause_168, qX7_takeClause_169, qX7_takeClause_172, qX7_takeClause_173, qX7_takeClause_174, qX7_takeClause_176, qX7_takeClause_179, qX7_takeClause_180, qX7_takeClause_181, qX7_takeClause_182, qX7_takeClause_185, qX7_takeClause_188, qX7_takeClause_191, qX7_takeClause_192, qX7_takeClause_195, qX7_takeClause_196, qX7_takeClause_199, qX7_takeClause_202, qX7_takeClause_203, qX7_takeClause_206, qX7_takeClause_207, qX7_takeClause_208, qX7_takeClause_211, qX7_takeClause_212, qX7_takeClause_215, qX7_takeClause_217, qX7_takeClause_220, qX7_takeClause_221, qX7_takeClause_222, qX7_takeClause_223, qX7_takeClause_226, qX7_takeClause_229, qX7_takeClause_230, qX7_takeClause_231, qX7_takeClause_232, qX7_takeClause_235, qX7_takeClause_236, qX7_takeClause_237, qX7_takeClause_240, qX7_takeClause_241, h20, show nI 7 = 7 from rfl, show (0 : Int32) ≤ 0 by decide, if_true, h15, Mfails, Option.toList, List.cons_append, List.nil_append]
    rfl
  · have hn : np < 7 := by omega
    have eb : b0N np = 0 := if_neg hc
    rw [eb] at hr hw
    have hr : fR (fR (badN B a1 e1 0 99) (badN B a2 e2 0 99)) (endB B T a3) = r := hr
    have hw : fW (fR (badN B a1 e1 0 99) (badN B a2 e2 0 99)) (fW (badN B a1 e1 0 99) a1 a2) a3 = w := hw
    have ne7 : ¬ nI np = 7 := fun q => by have := (nI_eq2 (by omega) (by decide)).mp (show nI np = nI 7 from q); omega
    generalize hμ2 : mm_set μ 0 (upd (μ.1 0) 15 (nI e)) = μ2
    have e0 : ∀ k, k ≠ 0 → μ2.1 k = μ.1 k := fun k hk => by rw [← hμ2, mm_set_ne _ _ hk]
    have eq : ∀ q, q ≠ 15 → μ2.1 0 q = μ.1 0 q := fun q hq => by rw [← hμ2, mm_set_same, upd_1, if_neg hq]
    have e15 : μ2.1 0 15 = nI e := by rw [← hμ2, mm_set_same, upd_1, if_pos rfl]
    obtain ⟨ν, i1, i2, i3, i4, i5, i6⟩ := s_MtakePlace (h.f2 (e0 8 (by decide)) (eq 13 (by decide))) hn he e15 (by rw [eq 20 (by decide)]; exact h20) x1 y1 x2 y2
    have hT2 : TXM ν B T := h.f2 (by rw [i1 8 (by decide) (by decide) (by decide), e0 8 (by decide)]) (by rw [i2 13 (by decide) (by decide) (by decide) (by decide) (by decide), eq 13 (by decide)])
    have q1 := fR_le (badN_le (B := B) (a := a1) (e := e1) (least := 0) (most := 99)) (badN_le (B := B) (a := a2) (e := e2) (least := 0) (most := 99))
    generalize fR (badN B a1 e1 0 99) (badN B a2 e2 0 99) = r2 at hr hw i4 i5 i6 q1
    have pre : ∀ (d : Nat) (P : mm_O), mm_at shM (d + 5) 96 [] P 93 [.ref 0, .int 0, .null] [] μ = mm_at shM (d + 5) 96 [] P 207 [.ref 0, .int 0, .int (nI r2)] [] ν := fun d P => by
      simp only [qX7_takeClause_0, qX7_takeClause_1, qX7_takeClause_4, qX7_takeClause_5, qX7_takeClause_8, qX7_takeClause_10, qX7_takeClause_12, qX7_takeClause_14, qX7_takeClause_16, qX7_takeClause_18, qX7_takeClause_21, qX7_takeClause_22, qX7_takeClause_25, qX7_takeClause_26, qX7_takeClause_29, qX7_takeClause_30, qX7_takeClause_33, qX7_takeClause_36, qX7_takeClause_38, qX7_takeClause_40, qX7_takeClause_42, qX7_takeClause_44, qX7_takeClause_46, qX7_takeClause_49, qX7_takeClause_50, qX7_takeClause_53, qX7_takeClause_54, qX7_takeClause_57, qX7_takeClause_58, qX7_takeClause_59, qX7_takeClause_62, qX7_takeClause_63, qX7_takeClause_66, qX7_takeClause_67, qX7_takeClause_70, qX7_takeClause_72, qX7_takeClause_74, qX7_takeClause_76, qX7_takeClause_78, qX7_takeClause_80, qX7_takeClause_83, qX7_takeClause_84, qX7_takeClause_87, qX7_takeClause_88, qX7_takeClause_91, qX7_takeClause_92, qX7_takeClause_93, qX7_takeClause_94, qX7_takeClause_97, qX7_takeClause_98, qX7_takeClause_99, qX7_takeClause_100, qX7_takeClause_103, qX7_takeClause_106, qX7_takeClause_107, qX7_takeClause_108, qX7_takeClause_111, qX7_takeClause_112, qX7_takeClause_115, qX7_takeClause_117, qX7_takeClause_120, qX7_takeClause_123, qX7_takeClause_124, qX7_takeClause_125, qX7_takeClause_128, qX7_takeClause_129, qX7_takeClause_132, qX7_takeClause_134, qX7_takeClause_137, qX7_takeClause_140, qX7_takeClause_141, qX7_takeClause_144, qX7_takeClause_147, qX7_takeClause_148, qX7_takeClause_149, qX7_takeClause_150, qX7_takeClause_153, qX7_takeClause_156, qX7_takeClause_157, qX7_takeClause_158, qX7_takeClause_159, qX7_takeClause_162, qX7_takeClause_165, qX7_takeClause_166, qX7_takeClause_167, qX7_takeClause_168, qX7_takeClause_169, qX7_takeClause_172, qX7_takeClause_173, qX7_takeClause_174, qX7_takeClause_176, qX7_takeClause_179, qX7_takeClause_180, qX7_takeClause_181, qX7_takeClause_182, qX7_takeClause_185, qX7_takeClause_188, qX7_takeClause_191, qX7_takeClause_192, qX7_takeClause_195, qX7_takeClause_196, qX7_takeClause_199, qX7_takeClause_202, qX7_takeClause_203, qX7_takeClause_206, qX7_takeClause_208, qX7_takeClause_211, qX7_takeClause_212, qX7_takeClause_215, qX7_takeClause_217, qX7_takeClause_220, qX7_takeClause_221, qX7_takeClause_222, qX7_takeClause_223, qX7_takeClause_226, qX7_takeClause_229, qX7_takeClause_230, qX7_takeClause_231, qX7_takeClause_232, qX7_takeClause_235, qX7_takeClause_236, qX7_takeClause_237, qX7_takeClause_240, qX7_takeClause_241, h20, ne7, show (0 : Int32) ≤ 0 by decide, show ¬ (0 : Int32) = 2 by decide, if_true, if_false, h17, mm_sti_set, hμ2, i6, Option.toList, List.cons_append, List.nil_append]
    by_cases z : r2 = 0
    · subst z
      obtain ⟨c1, c2, c3, c4, c5⟩ := i4 rfl
      obtain ⟨ν', j1, j2, j3, j4, j5⟩ := s_Mend (a1 := .int 0) hT2 l4.2.1 c1 x3
      have hr : endB B T a3 = r := hr
      have hw : a3 = w := hw
      rw [hr] at j3 j4 j5
      refine ⟨ν', fun k a b c => by rw [j1 k a, i1 k a b c]; exact e0 k a, fun q a b c d e => by rw [j2 q a b, i2 q a b c d e]; exact eq q b, fun j hj => ⟨by rw [j1 9 (by decide), (i3 j hj).1, e0 9 (by decide)], by rw [j1 10 (by decide), (i3 j hj).2, e0 10 (by decide)]⟩, fun hz => ?_, fun hz => by rw [j4 hz, hw], fun d P => ?_⟩
      · obtain ⟨d1, d2⟩ := j3 hz
        exact ⟨d1, by rw [j2 20 (by decide) (by decide)]; exact c2, by rw [j1 9 (by decide)]; exact c3, by rw [j1 10 (by decide)]; exact c4, by rw [d2, c5]; exact eq 14 (by decide)⟩
      · rw [pre]
        exact j5 d P
    · have hr' : r2 = r := (show fR r2 (endB B T a3) = r2 from if_neg z).symm.trans hr
      have hw' : fW (badN B a1 e1 0 99) a1 a2 = w := (show fW r2 (fW (badN B a1 e1 0 99) a1 a2) a3 = fW (badN B a1 e1 0 99) a1 a2 from if_neg z).symm.trans hw
      subst hr'
      obtain ⟨ν', j1, j2, j3⟩ := s_Mbad (μ := ν) (a1 := .int 0) z q1
      refine ⟨ν', fun k a b c => by rw [j1 k a, i1 k a b c]; exact e0 k a, fun q a b c d e => by rw [j2 q b, i2 q a b c d e]; exact eq q b, fun j hj => ⟨by rw [j1 9 (by decide), (i3 j hj).1, e0 9 (by decide)], by rw [j1 10 (by decide), (i3 j hj).2, e0 10 (by decide)]⟩, fun hz => absurd hz z, fun hz => by rw [j2 14 (by decide), i5 hz, hw'], fun d P => ?_⟩
      rw [pre]
      exact j3 d P
end MC2
