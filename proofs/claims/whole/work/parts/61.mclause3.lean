/-! THE TEXT: the reference's letter and stone clauses, through -/
section MC3
variable {μ : mm_M} {B : Nat → Nat} {T : Nat}
theorem s_Mletter (h : TXM μ B T) {p e a1 e1 a2 e2 a3 e3 a4 e4 a5 nl : Nat} {mo : Int32} (he : e ≤ T) (hnl : nl ≤ 7) (h15 : μ.1 0 15 = nI p) (h17 : μ.1 0 17 = nI e) (h23 : μ.1 0 23 = nI nl) (h20 : μ.1 0 20 - 1 = mo) (x1 : enF_ (isB B) T e = a1) (y1 : enF_ (isF B) T a1 = e1) (x2 : enF_ (isB B) T e1 = a2) (y2 : enF_ (isF B) T a2 = e2) (x3 : enF_ (isB B) T e2 = a3) (y3 : enF_ (isF B) T a3 = e3) (x4 : enF_ (isB B) T e3 = a4) (y4 : enF_ (isF B) T a4 = e4) (x5 : enF_ (isB B) T e4 = a5) {r1 r2 r3 r4 r w1 w2 w3 w4 w : Nat} (hr1 : fR (b0N nl) (badN B a1 e1 0 mo) = r1) (hr2 : fR r1 (badN B a2 e2 1 99) = r2) (hr3 : fR r2 (badN B a3 e3 0 999) = r3) (hr4 : fR r3 (badN B a4 e4 0 99) = r4) (hr : fR r4 (endB B T a5) = r) (hw1 : fW (b0N nl) p a1 = w1) (hw2 : fW r1 w1 a2 = w2) (hw3 : fW r2 w2 a3 = w3) (hw4 : fW r3 w3 a4 = w4) (hw : fW r4 w4 a5 = w) : ∃ ν' : mm_M, (∀ k, k ≠ 0 → k ≠ 11 → k ≠ 12 → k ≠ 13 → k ≠ 14 → ν'.1 k = μ.1 k) ∧ (∀ q, q ≠ 14 → q ≠ 15 → q ≠ 18 → q ≠ 19 → q ≠ 23 → ν'.1 0 q = μ.1 0 q) ∧ (∀ j, j ≠ nl → ν'.1 11 j = μ.1 11 j ∧ ν'.1 12 j = μ.1 12 j ∧ ν'.1 13 j = μ.1 13 j ∧ ν'.1 14 j = μ.1 14 j) ∧ (r = 0 → ν'.1 0 15 = nI (a5 + 1) ∧ ν'.1 0 23 = nI (nl + 1) ∧ (ν'.1 11 nl = nI (vlN B a1 (min (e1 - a1) 3)) ∧ ν'.1 12 nl = nI (vlN B a2 (min (e2 - a2) 3)) ∧ ν'.1 13 nl = nI (vlN B a3 (min (e3 - a3) 3)) ∧ ν'.1 14 nl = nI (vlN B a4 (min (e4 - a4) 3))) ∧ ν'.1 0 14 = μ.1 0 14) ∧ (r ≠ 0 → ν'.1 0 14 = nI w) ∧ ∀ (d : Nat) (P : mm_O), mm_at shM (d + 5) 96 [] P 93 [.ref 0, .int 1, .null] [] μ = P (some (.int (nI r))) ν' := by
  have l1 := en_b (c := isB B) he
  rw [x1] at l1
  have l2 := en_b (c := isF B) l1.2.1
  rw [y1] at l2
  have l3 := en_b (c := isB B) l2.2.1
  rw [x2] at l3
  have l4 := en_b (c := isF B) l3.2.1
  rw [y2] at l4
  have l5 := en_b (c := isB B) l4.2.1
  rw [x3] at l5
  have l6 := en_b (c := isF B) l5.2.1
  rw [y3] at l6
  have l7 := en_b (c := isB B) l6.2.1
  rw [x4] at l7
  have l8 := en_b (c := isF B) l7.2.1
  rw [y4] at l8
  by_cases hc : 7 ≤ nl
  · have hn : nl = 7 := by omega
    subst hn
    have r3 : r = 3 := by
      rw [← hr, ← hr4, ← hr3, ← hr2, ← hr1]; rfl
    have wp : w = p := by
      rw [← hw, ← hw4, ← hw3, ← hw2, ← hw1, ← hr4, ← hr3, ← hr2, ← hr1]; rfl
    rw [r3, wp]
    refine ⟨mm_sti μ 0 14 (nI p), fun k a _ _ _ _ => by rw [mm_sti_set, mm_set_ne _ _ a], fun q a _ _ _ _ => by rw [mm_sti_set, mm_set_same, upd_1, if_neg a], fun j _ => ⟨by rw [mm_sti_set, mm_set_ne _ _ (by decide)], by rw [mm_sti_set, mm_set_ne _ _ (by decide)], by rw [mm_sti_set, mm_set_ne _ _ (by decide)], by rw [mm_sti_set, mm_set_ne _ _ (by decide)]⟩, fun h => absurd h (by decide), fun _ => by rw [mm_sti_set, mm_set_same, upd_1, if_pos rfl], fun d P => ?_⟩
    simp only [qX7_takeClause_0, qX7_takeClause_1, qX7_takeClause_4, qX7_takeClause_5, qX7_takeClause_8, qX7_takeClause_10, qX7_takeClause_12, qX7_takeClause_14, qX7_takeClause_16, qX7_takeClause_18, qX7_takeClause_21, qX7_takeClause_22, qX7_takeClause_25, qX7_takeClause_26, qX7_takeClause_29, qX7_takeClause_30, qX7_takeClause_33, qX7_takeClause_36, qX7_takeClause_38, qX7_takeClause_40, qX7_takeClause_42, qX7_takeClause_44, qX7_takeClause_46, qX7_takeClause_49, qX7_takeClause_50, qX7_takeClause_53, qX7_takeClause_54, qX7_takeClause_57, qX7_takeClause_58, qX7_takeClause_59, qX7_takeClause_62, qX7_takeClause_63, qX7_takeClause_66, qX7_takeClause_67, qX7_takeClause_70, qX7_takeClause_72, qX7_takeClause_74, qX7_takeClause_76, qX7_takeClause_78, qX7_takeClause_80, qX7_takeClause_83, qX7_takeClause_84, qX7_takeClause_87, qX7_takeClause_88, qX7_takeClause_91, qX7_takeClause_92, qX7_takeClause_93, qX7_takeClause_94, qX7_takeClause_97, qX7_takeClause_98, qX7_takeClause_99, qX7_takeClause_100, qX7_takeClause_103, qX7_takeClause_106, qX7_takeClause_107, qX7_takeClause_108, qX7_takeClause_111, qX7_takeClause_112, qX7_takeClause_115, qX7_takeClause_117, qX7_takeClause_120, qX7_takeClause_123, qX7_takeClause_124, qX7_takeClause_125, qX7_takeClause_128, qX7_takeClause_129, qX7_takeClause_132, qX7_takeClause_134, qX7_takeClause_137, qX7_takeClause_140, qX7_takeClause_141, qX7_takeClause_144, qX7_takeClause_147, qX7_takeClause_148, qX7_takeClause_149, qX7_takeClause_150, qX7_takeClause_153, qX7_takeClause_156, qX7_takeClause_157, qX7_takeClause_158, qX7_takeClause_159, qX7_takeClause_162, qX7_takeClause_165, qX7_takeClause_166, qX7_takeClause_167, qX7_takeClause_168, qX7_takeClause_169, qX7_takeClause_172, qX7_takeClause_173, qX7_takeClause_174, qX7_takeClause_176, qX7_takeClause_179, qX7_takeClause_180, qX7_takeClause_181, qX7_takeClause_182, qX7_takeClause_185, qX7_takeClause_188, qX7_takeClause_191, qX7_takeClause_192, qX7_takeClause_195, qX7_takeClause_196, qX7_takeClause_199, qX7_takeClause_202, qX7_takeClause_203, qX7_takeClause_206, qX7_takeClause_207, qX7_takeClause_208, qX7_takeClause_211, qX7_takeClause_212, qX7_takeClause_215, qX7_takeClause_217, qX7_takeClause_220, qX7_takeClause_221, qX7_takeClause_222, qX7_takeClause_223, qX7_takeClause_226, qX7_takeClause_229, qX7_takeClause_230, qX7_takeClause_231, qX7_takeClause_232, qX7_takeClause_235, qX7_takeClause_236, qX7_takeClause_237, qX7_takeClause_240, qX7_takeClause_241, h23, show nI 7 = 7 from rfl, show (0 : Int32) ≤ 1 by decide, show ¬ (1 : Int32) = 0 by decide, if_true, if_false, h15, Mfails, Option.toList, List.cons_append, List.nil_append]
    rfl
  · have hn : nl < 7 := by omega
    have eb : b0N nl = 0 := if_neg hc
    rw [eb] at hr1 hw1
    have hr1 : badN B a1 e1 0 mo = r1 := hr1
    have hw1 : a1 = w1 := hw1
    have ne7 : ¬ nI nl = 7 := fun q => by have := (nI_eq2 (by omega) (by decide)).mp (show nI nl = nI 7 from q); omega
    generalize hμ2 : mm_set μ 0 (upd (μ.1 0) 15 (nI e)) = μ2
    have e0 : ∀ k, k ≠ 0 → μ2.1 k = μ.1 k := fun k hk => by rw [← hμ2, mm_set_ne _ _ hk]
    have eq : ∀ q, q ≠ 15 → μ2.1 0 q = μ.1 0 q := fun q hq => by rw [← hμ2, mm_set_same, upd_1, if_neg hq]
    have e15 : μ2.1 0 15 = nI e := by rw [← hμ2, mm_set_same, upd_1, if_pos rfl]
    obtain ⟨ν, i1, i2, i3, i4, i5, i6⟩ := s_MtakeLetter (h.f2 (e0 8 (by decide)) (eq 13 (by decide))) hn he e15 (by rw [eq 23 (by decide)]; exact h23) (by rw [eq 20 (by decide)]; exact h20) x1 y1 x2 y2 x3 y3 x4 y4 hr1 rfl rfl rfl
    have hT2 : TXM ν B T := h.f2 (by rw [i1 8 (by decide) (by decide) (by decide) (by decide) (by decide), e0 8 (by decide)]) (by rw [i2 13 (by decide) (by decide) (by decide) (by decide) (by decide), eq 13 (by decide)])
    have t1 := badN_le (B := B) (a := a1) (e := e1) (least := 0) (most := mo)
    rw [hr1] at t1
    have q2 := fR_le t1 (badN_le (B := B) (a := a2) (e := e2) (least := 1) (most := 99))
    have q3 := fR_le q2 (badN_le (B := B) (a := a3) (e := e3) (least := 0) (most := 999))
    have q4 := fR_le q3 (badN_le (B := B) (a := a4) (e := e4) (least := 0) (most := 99))
    rw [hr2, hr3, hr4] at q4 i4 i6
    have ew : fW (fR (fR r1 (badN B a2 e2 1 99)) (badN B a3 e3 0 999)) (fW (fR r1 (badN B a2 e2 1 99)) (fW r1 a1 a2) a3) a4 = w4 := by rw [hr2, hr3, hw1, hw2, hw3, hw4]
    rw [ew, hr2, hr3, hr4] at i5
    have pre : ∀ (d : Nat) (P : mm_O), mm_at shM (d + 5) 96 [] P 93 [.ref 0, .int 1, .null] [] μ = mm_at shM (d + 5) 96 [] P 207 [.ref 0, .int 1, .int (nI r4)] [] ν := fun d P => by
      simp only [qX7_takeClause_0, qX7_takeClause_1, qX7_takeClause_4, qX7_takeClause_5, qX7_takeClause_8, qX7_takeClause_10, qX7_takeClause_12, qX7_takeClause_14, qX7_takeClause_16, qX7_takeClause_18, qX7_takeClause_21, qX7_takeClause_22, qX7_takeClause_25, qX7_takeClause_26, qX7_takeClause_29, qX7_takeClause_30, qX7_takeClause_33, qX7_takeClause_36, qX7_takeClause_38, qX7_takeClause_40, qX7_takeClause_42, qX7_takeClause_44, qX7_takeClause_46, qX7_takeClause_49, qX7_takeClause_50, qX7_takeClause_53, qX7_takeClause_54, qX7_takeClause_57, qX7_takeClause_58, qX7_takeClause_59, qX7_takeClause_62, qX7_takeClause_63, qX7_takeClause_66, qX7_takeClause_67, qX7_takeClause_70, qX7_takeClause_72, qX7_takeClause_74, qX7_takeClause_76, qX7_takeClause_78, qX7_takeClause_80, qX7_takeClause_83, qX7_takeClause_84, qX7_takeClause_87, qX7_takeClause_88, qX7_takeClause_91, qX7_takeClause_92, qX7_takeClause_93, qX7_takeClause_94, qX7_takeClause_97, qX7_takeClause_98, qX7_takeClause_99, qX7_takeClause_100, qX7_takeClause_103, qX7_takeClause_106, qX7_takeClause_107, qX7_takeClause_108, qX7_takeClause_111, qX7_takeClause_112, qX7_takeClause_115, qX7_takeClause_117, qX7_takeClause_120, qX7_takeClause_123, qX7_takeClause_124, qX7_takeClause_125, qX7_takeClause_128, qX7_takeClause_129, qX7_takeClause_132, qX7_takeClause_134, qX7_takeClause_137, qX7_takeClause_140, qX7_takeClause_141, qX7_takeClause_144, qX7_takeClause_147, qX7_takeClause_148, qX7_takeClause_149, qX7_takeClause_150, qX7_takeClause_153, qX7_takeClause_156, qX7_takeClause_157, qX7_takeClause_158, qX7_takeClause_159, qX7_takeClause_162, qX7_takeClause_165, qX7_takeClause_166, qX7_takeClause_167, qX7_takeClause_168, qX7_takeClause_169, qX7_takeClause_172, qX7_takeClause_173, qX7_takeClause_174, qX7_takeClause_176, qX7_takeClause_179, qX7_takeClause_180, qX7_takeClause_181, qX7_takeClause_182, qX7_takeClause_185, qX7_takeClause_188, qX7_takeClause_191, qX7_takeClause_192, qX7_takeClause_195, qX7_takeClause_196, qX7_takeClause_199, qX7_takeClause_202, qX7_takeClause_203, qX7_takeClause_206, qX7_takeClause_208, qX7_takeClause_211, qX7_takeClause_212, qX7_takeClause_215, qX7_takeClause_217, qX7_takeClause_220, qX7_takeClause_221, qX7_takeClause_222, qX7_takeClause_223, qX7_takeClause_226, qX7_takeClause_229, qX7_takeClause_230, qX7_takeClause_231, qX7_takeClause_232, qX7_takeClause_235, qX7_takeClause_236, qX7_takeClause_237, qX7_takeClause_240, qX7_takeClause_241, h23, ne7, show (0 : Int32) ≤ 1 by decide, show ¬ (1 : Int32) = 0 by decide, show ¬ (1 : Int32) = 2 by decide, if_true, if_false, h17, mm_sti_set, hμ2, i6, Option.toList, List.cons_append, List.nil_append]
    by_cases z : r4 = 0
    · subst z
      obtain ⟨c1, c2, c3, c5⟩ := i4 rfl
      obtain ⟨ν', j1, j2, j3, j4, j5⟩ := s_Mend (a1 := .int 1) hT2 l8.2.1 c1 x5
      have hr : endB B T a5 = r := hr
      have hw : a5 = w := hw
      rw [hr] at j3 j4 j5
      refine ⟨ν', fun k a b c d e => by rw [j1 k a, i1 k a b c d e]; exact e0 k a, fun q a b c d e => by rw [j2 q a b, i2 q a b c d e]; exact eq q b, fun j hj => ⟨by rw [j1 11 (by decide), (i3 j hj).1, e0 11 (by decide)], by rw [j1 12 (by decide), (i3 j hj).2.1, e0 12 (by decide)], by rw [j1 13 (by decide), (i3 j hj).2.2.1, e0 13 (by decide)], by rw [j1 14 (by decide), (i3 j hj).2.2.2, e0 14 (by decide)]⟩, fun hz => ?_, fun hz => by rw [j4 hz, hw], fun d P => ?_⟩
      · obtain ⟨d1, d2⟩ := j3 hz
        exact ⟨d1, by rw [j2 23 (by decide) (by decide)]; exact c2, by rw [j1 11 (by decide), j1 12 (by decide), j1 13 (by decide), j1 14 (by decide)]; exact c3, by rw [d2, c5]; exact eq 14 (by decide)⟩
      · rw [pre]
        exact j5 d P
    · have hr' : r4 = r := (show fR r4 (endB B T a5) = r4 from if_neg z).symm.trans hr
      have hw' : w4 = w := (show fW r4 w4 a5 = w4 from if_neg z).symm.trans hw
      subst hr'
      obtain ⟨ν', j1, j2, j3⟩ := s_Mbad (μ := ν) (a1 := .int 1) z q4
      refine ⟨ν', fun k a b c d e => by rw [j1 k a, i1 k a b c d e]; exact e0 k a, fun q a b c d e => by rw [j2 q b, i2 q a b c d e]; exact eq q b, fun j hj => ⟨by rw [j1 11 (by decide), (i3 j hj).1, e0 11 (by decide)], by rw [j1 12 (by decide), (i3 j hj).2.1, e0 12 (by decide)], by rw [j1 13 (by decide), (i3 j hj).2.2.1, e0 13 (by decide)], by rw [j1 14 (by decide), (i3 j hj).2.2.2, e0 14 (by decide)]⟩, fun hz => absurd hz z, fun hz => by rw [j2 14 (by decide), i5 hz, hw'], fun d P => ?_⟩
      rw [pre]
      exact j3 d P
theorem s_Mstone (h : TXM μ B T) {p e a1 e1 a2 : Nat} {ct : Bool} (he : e ≤ T) (h15 : μ.1 0 15 = nI p) (h17 : μ.1 0 17 = nI e) (h28 : (ct = false ∧ μ.1 0 28 = -1) ∨ (ct = true ∧ ∃ c, c ≤ 99 ∧ μ.1 0 28 = nI c)) (x1 : enF_ (isB B) T e = a1) (y1 : enF_ (isF B) T a1 = e1) (x2 : enF_ (isB B) T e1 = a2) {r1 r w1 w : Nat} (hr1 : fR (b0S ct) (badN B a1 e1 0 99) = r1) (hr : fR r1 (endB B T a2) = r) (hw1 : fW (b0S ct) p a1 = w1) (hw : fW r1 w1 a2 = w) : ∃ ν' : mm_M, (∀ k, k ≠ 0 → ν'.1 k = μ.1 k) ∧ (∀ q, q ≠ 14 → q ≠ 15 → q ≠ 18 → q ≠ 19 → q ≠ 28 → ν'.1 0 q = μ.1 0 q) ∧ (r = 0 → ct = false ∧ ν'.1 0 15 = nI (a2 + 1) ∧ ν'.1 0 28 = nI (vlN B a1 (min (e1 - a1) 3)) ∧ ν'.1 0 14 = μ.1 0 14) ∧ (r ≠ 0 → ν'.1 0 14 = nI w) ∧ ∀ (d : Nat) (P : mm_O), mm_at shM (d + 5) 96 [] P 93 [.ref 0, .int 2, .null] [] μ = P (some (.int (nI r))) ν' := by
  have l1 := en_b (c := isB B) he
  rw [x1] at l1
  have l2 := en_b (c := isF B) l1.2.1
  rw [y1] at l2
  rcases h28 with ⟨hct, h28⟩ | ⟨hct, c, hc, h28⟩
  · subst hct
    have hr1 : badN B a1 e1 0 99 = r1 := hr1
    have hw1 : a1 = w1 := hw1
    generalize hμ2 : mm_set μ 0 (upd (μ.1 0) 15 (nI e)) = μ2
    have e0 : ∀ k, k ≠ 0 → μ2.1 k = μ.1 k := fun k hk => by rw [← hμ2, mm_set_ne _ _ hk]
    have eq : ∀ q, q ≠ 15 → μ2.1 0 q = μ.1 0 q := fun q hq => by rw [← hμ2, mm_set_same, upd_1, if_neg hq]
    have e15 : μ2.1 0 15 = nI e := by rw [← hμ2, mm_set_same, upd_1, if_pos rfl]
    obtain ⟨ν0, i1, i2, i3, i4, i5⟩ := s_MtakeNumber (h.f2 (e0 8 (by decide)) (eq 13 (by decide))) he e15 (least := 0) (most := 99) x1 y1
    have q1 := badN_le (B := B) (a := a1) (e := e1) (least := 0) (most := 99)
    rw [hr1] at i3 i4 i5 q1
    generalize hν : mm_set ν0 0 (upd (ν0.1 0) 28 (ν0.1 0 18)) = ν
    have n0 : ∀ k, k ≠ 0 → ν.1 k = ν0.1 k := fun k hk => by rw [← hν, mm_set_ne _ _ hk]
    have nq : ∀ q, q ≠ 28 → ν.1 0 q = ν0.1 0 q := fun q hq => by rw [← hν, mm_set_same, upd_1, if_neg hq]
    have n28 : ν.1 0 28 = ν0.1 0 18 := by rw [← hν, mm_set_same, upd_1, if_pos rfl]
    have hT2 : TXM ν B T := h.f2 (by rw [n0 8 (by decide), i1 8 (by decide), e0 8 (by decide)]) (by rw [nq 13 (by decide), i2 13 (by decide) (by decide) (by decide) (by decide), eq 13 (by decide)])
    have pre : ∀ (d : Nat) (P : mm_O), mm_at shM (d + 5) 96 [] P 93 [.ref 0, .int 2, .null] [] μ = mm_at shM (d + 5) 96 [] P 207 [.ref 0, .int 2, .int (nI r1)] [] ν := fun d P => by
      simp only [qX7_takeClause_0, qX7_takeClause_1, qX7_takeClause_4, qX7_takeClause_5, qX7_takeClause_8, qX7_takeClause_10, qX7_takeClause_12, qX7_takeClause_14, qX7_takeClause_16, qX7_takeClause_18, qX7_takeClause_21, qX7_takeClause_22, qX7_takeClause_25, qX7_takeClause_26, qX7_takeClause_29, qX7_takeClause_30, qX7_takeClause_33, qX7_takeClause_36, qX7_takeClause_38, qX7_takeClause_40, qX7_takeClause_42, qX7_takeClause_44, qX7_takeClause_46, qX7_takeClause_49, qX7_takeClause_50, qX7_takeClause_53, qX7_takeClause_54, qX7_takeClause_57, qX7_takeClause_58, qX7_takeClause_59, qX7_takeClause_62, qX7_takeClause_63, qX7_takeClause_66, qX7_takeClause_67, qX7_takeClause_70, qX7_takeClause_72, qX7_takeClause_74, qX7_takeClause_76, qX7_takeClause_78, qX7_takeClause_80, qX7_takeClause_83, qX7_takeClause_84, qX7_takeClause_87, qX7_takeClause_88, qX7_takeClause_91, qX7_takeClause_92, qX7_takeClause_93, qX7_takeClause_94, qX7_takeClause_97, qX7_takeClause_98, qX7_takeClause_99, qX7_takeClause_100, qX7_takeClause_103, qX7_takeClause_106, qX7_takeClause_107, qX7_takeClause_108, qX7_takeClause_111, qX7_takeClause_112, qX7_takeClause_115, qX7_takeClause_117, qX7_takeClause_120, qX7_takeClause_123, qX7_takeClause_124, qX7_takeClause_125, qX7_takeClause_128, qX7_takeClause_129, qX7_takeClause_132, qX7_takeClause_134, qX7_takeClause_137, qX7_takeClause_140, qX7_takeClause_141, qX7_takeClause_144, qX7_takeClause_147, qX7_takeClause_148, qX7_takeClause_149, qX7_takeClause_150, qX7_takeClause_153, qX7_takeClause_156, qX7_takeClause_157, qX7_takeClause_158, qX7_takeClause_159, qX7_takeClause_162, qX7_takeClause_165, qX7_takeClause_166, qX7_takeClause_167, qX7_takeClause_168, qX7_takeClause_169, qX7_takeClause_172, qX7_takeClause_173, qX7_takeClause_174, qX7_takeClause_176, qX7_takeClause_179, qX7_takeClause_180, qX7_takeClause_181, qX7_takeClause_182, qX7_takeClause_185, qX7_takeClause_188, qX7_takeClause_191, qX7_takeClause_192, qX7_takeClause_195, qX7_takeClause_196, qX7_takeClause_199, qX7_takeClause_202, qX7_takeClause_203, qX7_takeClause_206, qX7_takeClause_208, qX7_takeClause_211, qX7_takeClause_212, qX7_takeClause_215, qX7_takeClause_217, qX7_takeClause_220, qX7_takeClause_221, qX7_takeClause_222, qX7_takeClause_223, qX7_takeClause_226, qX7_takeClause_229, qX7_takeClause_230, qX7_takeClause_231, qX7_takeClause_232, qX7_takeClause_235, qX7_takeClause_236, qX7_takeClause_237, qX7_takeClause_240, qX7_takeClause_241, h28, show (-1 : Int32) < 0 by decide, show (0 : Int32) ≤ 2 by decide, show ¬ (2 : Int32) = 0 by decide, show ¬ (2 : Int32) = 1 by decide, if_true, if_false, h17, mm_sti_set, hμ2, i5, hν, Option.toList, List.cons_append, List.nil_append]
    by_cases z : r1 = 0
    · subst z
      obtain ⟨c1, c2, c3⟩ := i3 rfl
      obtain ⟨ν', j1, j2, j3, j4, j5⟩ := s_Mend (a1 := .int 2) hT2 l2.2.1 (by rw [nq 15 (by decide)]; exact c1) x2
      have hr : endB B T a2 = r := hr
      have hw : a2 = w := hw
      rw [hr] at j3 j4 j5
      refine ⟨ν', fun k a => by rw [j1 k a, n0 k a, i1 k a]; exact e0 k a, fun q a b c d e => by rw [j2 q a b, nq q e, i2 q a b c d]; exact eq q b, fun hz => ?_, fun hz => by rw [j4 hz, hw], fun d P => ?_⟩
      · obtain ⟨d1, d2⟩ := j3 hz
        exact ⟨rfl, d1, by rw [j2 28 (by decide) (by decide), n28]; exact c2, by rw [d2, nq 14 (by decide), c3]; exact eq 14 (by decide)⟩
      · rw [pre]
        exact j5 d P
    · have hr' : r1 = r := (show fR r1 (endB B T a2) = r1 from if_neg z).symm.trans hr
      have hw' : w1 = w := (show fW r1 w1 a2 = w1 from if_neg z).symm.trans hw
      subst hr'
      obtain ⟨ν', j1, j2, j3⟩ := s_Mbad (μ := ν) (a1 := .int 2) z q1
      refine ⟨ν', fun k a => by rw [j1 k a, n0 k a, i1 k a]; exact e0 k a, fun q a b c d e => by rw [j2 q b, nq q e, i2 q a b c d]; exact eq q b, fun hz => absurd hz z, fun hz => by rw [j2 14 (by decide), nq 14 (by decide), i4 hz, ← hw', hw1], fun d P => ?_⟩
      rw [pre]
      exact j3 d P
  · subst hct
    have u1 : r1 = 3 := hr1.symm.trans rfl
    have r3 : r = 3 := by rw [← hr, u1]; rfl
    have wp : w = p := by rw [← hw, ← hw1, u1]; rfl
    rw [r3, wp]
    have hcn : ¬ nI c < 0 := nI_neg (by omega)
    refine ⟨mm_sti μ 0 14 (nI p), fun k a => by rw [mm_sti_set, mm_set_ne _ _ a], fun q a _ _ _ _ => by rw [mm_sti_set, mm_set_same, upd_1, if_neg a], fun h => absurd h (by decide), fun _ => by rw [mm_sti_set, mm_set_same, upd_1, if_pos rfl], fun d P => ?_⟩
    simp only [qX7_takeClause_0, qX7_takeClause_1, qX7_takeClause_4, qX7_takeClause_5, qX7_takeClause_8, qX7_takeClause_10, qX7_takeClause_12, qX7_takeClause_14, qX7_takeClause_16, qX7_takeClause_18, qX7_takeClause_21, qX7_takeClause_22, qX7_takeClause_25, qX7_takeClause_26, qX7_takeClause_29, qX7_takeClause_30, qX7_takeClause_33, qX7_takeClause_36, qX7_takeClause_38, qX7_takeClause_40, qX7_takeClause_42, qX7_takeClause_44, qX7_takeClause_46, qX7_takeClause_49, qX7_takeClause_50, qX7_takeClause_53, qX7_takeClause_54, qX7_takeClause_57, qX7_takeClause_58, qX7_takeClause_59, qX7_takeClause_62, qX7_takeClause_63, qX7_takeClause_66, qX7_takeClause_67, qX7_takeClause_70, qX7_takeClause_72, qX7_takeClause_74, qX7_takeClause_76, qX7_takeClause_78, qX7_takeClause_80, qX7_takeClause_83, qX7_takeClause_84, qX7_takeClause_87, qX7_takeClause_88, qX7_takeClause_91, qX7_takeClause_92, qX7_takeClause_93, qX7_takeClause_94, qX7_takeClause_97, qX7_takeClause_98, qX7_takeClause_99, qX7_takeClause_100, qX7_takeClause_103, qX7_takeClause_106, qX7_takeClause_107, qX7_takeClause_108, qX7_takeClause_111, qX7_takeClause_112, qX7_takeClause_115, qX7_takeClause_117, qX7_takeClause_120, qX7_takeClause_123, qX7_takeClause_124, qX7_takeClause_125, qX7_takeClause_128, qX7_takeClause_129, qX7_takeClause_132, qX7_takeClause_134, qX7_takeClause_137, qX7_takeClause_140, qX7_takeClause_141, qX7_takeClause_144, qX7_takeClause_147, qX7_takeClause_148, qX7_takeClause_149, qX7_takeClause_150, qX7_takeClause_153, qX7_takeClause_156, qX7_takeClause_157, qX7_takeClause_158, qX7_takeClause_159, qX7_takeClause_162, qX7_takeClause_165, qX7_takeClause_166, qX7_takeClause_167, qX7_takeClause_168, qX7_takeClause_169, qX7_takeClause_172, qX7_takeClause_173, qX7_takeClause_174, qX7_takeClause_176, qX7_takeClause_179, qX7_takeClause_180, qX7_takeClause_181, qX7_takeClause_182, qX7_takeClause_185, qX7_takeClause_188, qX7_takeClause_191, qX7_takeClause_192, qX7_takeClause_195, qX7_takeClause_196, qX7_takeClause_199, qX7_takeClause_202, qX7_takeClause_203, qX7_takeClause_206, qX7_takeClause_207, qX7_takeClause_208, qX7_takeClause_211, qX7_takeClause_212, qX7_takeClause_215, qX7_takeClause_217, qX7_takeClause_220, qX7_takeClause_221, qX7_takeClause_222, qX7_takeClause_223, qX7_takeClause_226, qX7_takeClause_229, qX7_takeClause_230, qX7_takeClause_231, qX7_takeClause_232, qX7_takeClause_235, qX7_takeClause_236, qX7_takeClause_237, qX7_takeClause_240, qX7_takeClause_241, h28, hcn, show (0 : Int32) ≤ 2 by decide, show ¬ (2 : Int32) = 0 by decide, show ¬ (2 : Int32) = 1 by decide, if_true, if_false, h15, Mfails, Option.toList, List.cons_append, List.nil_append]
    rfl
end MC3
