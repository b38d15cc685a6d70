/-! THE TEXT: stone and no clause, on both sides; any clause -/
section BO3
variable {σ μ : mm_M} {B : Nat → Nat} {T : Nat}
theorem both_stone (hC : TXC σ B T) (hM : TXM μ B T) {p e np nl : Nat} (hp : p < T) (h4 : σ.1 1 4 = nI p) (h5 : σ.1 1 5 = 0) (pr : PR σ μ np nl) (he : enF_ (isL B) T p = e) (hnP : ¬ wdP B p e) (hnL : ¬ wdL B p e) (hw : wdS B p e) {μ1 : mm_M} (m1 : ∀ k, k ≠ 0 → μ1.1 k = μ.1 k) (m2 : ∀ q, q ≠ 15 → q ≠ 17 → μ1.1 0 q = μ.1 0 q) (m3 : μ1.1 0 15 = nI p) (m4 : μ1.1 0 17 = nI e) (m5 : ∀ (d : Nat) (P : mm_O), mm_run shM (d + 6) 96 [.ref 0] μ P = mm_at shM (d + 5) 96 [] P 93 [.ref 0, .int 2, .null] [] μ1) : CB σ μ B T p := by
  have l0 := en_b (c := isL B) (show p ≤ T by omega)
  rw [he] at l0
  obtain ⟨⟨n1, n2, n3⟩, ⟨n4, n5, n6⟩, n7, n8, n9⟩ := pr
  have hct : ∃ ct : Bool, σ.1 1 6 = bI ct ∧ ((ct = false ∧ μ1.1 0 28 = -1) ∨ (ct = true ∧ ∃ c, c ≤ 99 ∧ μ1.1 0 28 = nI c)) := by
    rw [m2 28 (by decide) (by decide)]
    rcases n9 with ⟨q1, q2, q3⟩ | ⟨q1, c, hc, q2, q3⟩
    · exact ⟨false, q1, Or.inl ⟨rfl, q3⟩⟩
    · exact ⟨true, q1, Or.inr ⟨rfl, c, hc, q3⟩⟩
  obtain ⟨ct, ct1, ct2⟩ := hct
  obtain ⟨ν, i1, i2, i4, i5, i6⟩ := s_Mstone (ct := ct) (hM.f2 (m1 8 (by decide)) (m2 13 (by decide) (by decide))) l0.2.1 m3 m4 ct2 rfl rfl rfl rfl rfl rfl rfl
  have run := fun (d : Nat) (P : mm_O) => s_readStone hC (f := p) (ct := ct) l0.2.1 ct1 rfl rfl rfl rfl rfl rfl rfl d P
  have la1 := en_b (c := isB B) l0.2.1
  have le1 := en_b (c := isF B) la1.2.1
  have la2 := en_b (c := isB B) le1.2.1
  generalize enF_ (isB B) T e = a1 at *
  generalize enF_ (isF B) T a1 = e1 at *
  generalize enF_ (isB B) T e1 = a2 at *
  generalize fW (fR (b0S ct) (badN B a1 e1 0 99)) (fW (b0S ct) p a1) a2 = w at *
  have q0 : b0S ct ≤ 3 := by unfold b0S; split <;> omega
  have hr3 : fR (fR (b0S ct) (badN B a1 e1 0 99)) (endB B T a2) ≤ 3 := fR_le (fR_le q0 badN_le) endB_le
  generalize hr : fR (fR (b0S ct) (badN B a1 e1 0 99)) (endB B T a2) = r at *
  have mdl : ∀ (d : Nat) (P : mm_O), mm_run shM (d + 6) 96 [.ref 0] μ P = P (some (.int (nI r))) ν := fun d P => by rw [m5]; exact i6 d P
  obtain ⟨bp, bp1, bp2⟩ := s_isWord_place (hC.st e 0 p) l0.1 l0.2.1 (stC_4 σ e 0 p)
  have hbp : bp = false := by
    cases bp with
    | true => exact absurd (bp1.mp rfl) hnP
    | false => rfl
  subst hbp
  obtain ⟨bl, bl1, bl2⟩ := s_isWord_letter (hC.st e 0 p) l0.1 l0.2.1 (stC_4 σ e 0 p)
  have hbl : bl = false := by
    cases bl with
    | true => exact absurd (bl1.mp rfl) hnL
    | false => rfl
  subst hbl
  obtain ⟨bw, bw1, bw2⟩ := s_isWord_stone (hC.st e 0 p) l0.1 l0.2.1 (stC_4 σ e 0 p)
  have hbw : bw = true := bw1.mpr hw
  subst hbw
  have fk : ∀ k, k ≠ 0 → k < 9 ∨ 14 < k → ν.1 k = μ.1 k := fun k a b => by rw [i1 k a]; exact m1 k a
  have fq : ∀ q, q < 14 ∨ 28 < q → ν.1 0 q = μ.1 0 q := fun q a => by rw [i2 q (by omega) (by omega) (by omega) (by omega) (by omega)]; exact m2 q (by omega) (by omega)
  have cls : ∀ (σ' : mm_M), (∀ (d : Nat) (P : mm_O), mm_run shC (d + 4) 7 [.ref 1, .int (nI p)] (stC σ e 0 p) P = P none σ') → ∀ (d : Nat) (P : mm_O), mm_run shC (d + 5) 4 [.ref 1] σ P = P none σ' := fun σ' hs d P => by
    rw [s_word hC (by omega) h4 h5 he]
    simp only [qX1_readClause_0, qX1_readClause_1, qX1_readClause_4, qX1_readClause_6, qX1_readClause_9, qX1_readClause_10, qX1_readClause_13, qX1_readClause_16, qX1_readClause_17, qX1_readClause_19, qX1_readClause_21, qX1_readClause_24, qX1_readClause_27, qX1_readClause_28, qX1_readClause_29, qX1_readClause_32, qX1_readClause_33, qX1_readClause_34, qX1_readClause_37, qX1_readClause_40, qX1_readClause_41, qX1_readClause_42, qX1_readClause_44, qX1_readClause_47, qX1_readClause_50, qX1_readClause_51, qX1_readClause_52, qX1_readClause_55, qX1_readClause_58, qX1_readClause_59, qX1_readClause_60, qX1_readClause_62, qX1_readClause_65, qX1_readClause_68, qX1_readClause_69, qX1_readClause_70, qX1_readClause_73, qX1_readClause_76, qX1_readClause_77, qX1_readClause_78, qX1_readClause_80, qX1_readClause_83, qX1_readClause_86, qX1_readClause_87, qX1_readClause_88, qX1_readClause_91, qX1_readClause_94, qX1_readClause_95, qX1_readClause_96, qX1_readClause_97, qX1_readClause_100, bp2, bl2, bw2, bI, Bool.false_eq_true, if_true, show ¬ (1 : Int32) = 0 by decide, if_false, hs, Option.toList, List.cons_append, List.nil_append]
  by_cases z : r = 0
  · subst z
    obtain ⟨z1, zE⟩ := fR_0 hr
    obtain ⟨z0, zb1⟩ := fR_0 z1
    obtain ⟨c0, c1, c2, c5⟩ := i4 rfl
    have v1 := (bad0 (lo := 0) (hi := 99) rfl rfl (by decide) (by decide) zb1 le1.2.2.1).2
    have hpe := pe_le (B := B) la2.2.1
    rw [if_pos zE] at hpe
    have run2 : ∀ (d : Nat) (P : mm_O), mm_run shC (d + 4) 7 [.ref 1, .int (nI p)] (stC σ e 0 p) P = P none (adS (stC σ (a2 + 1) 0 w) (vlN B a1 (min (e1 - a1) 3))) := fun d P => by rw [run, if_pos rfl, if_pos zE]
    generalize hσ' : adS (stC σ (a2 + 1) 0 w) (vlN B a1 (min (e1 - a1) 3)) = σ' at run2
    have s1 : σ'.1 1 = upd ((stC σ (a2 + 1) 0 w).1 1) 6 1 := by rw [← hσ']; simp [adS, mm_set_1]
    have so : ∀ k, k ≠ 1 → k ≠ 3 → σ'.1 k = σ.1 k := fun k a b => by rw [← hσ']; simp [adS, mm_set_1, b, stC, a]
    have s3 : σ'.1 3 = upd (σ.1 3) 9 (nI (vlN B a1 (min (e1 - a1) 3))) := by rw [← hσ']; simp [adS, mm_set_1, stC]
    have iz : ∀ k, k ≠ 0 → ν.1 k = μ.1 k := fun k hk => by rw [i1 k hk]; exact m1 k hk
    refine ⟨σ', ν, 0, a2 + 1, by decide, fun k a b => so k a (by omega), by rw [s1, upd_1, if_neg (by decide)]; exact stC_q (by decide) (by decide) (by decide), fk, fq, by rw [s1, upd_1, if_neg (by decide)]; exact stC_4 _ _ _ _, hpe, by rw [s1, upd_1, if_neg (by decide)]; exact stC_5 _ _ _ _, fun _ => ⟨by omega, c1, ⟨np, nl, ⟨by rw [s3, upd_1, if_neg (by decide)]; exact n1, by rw [i2 20 (by decide) (by decide) (by decide) (by decide) (by decide), m2 20 (by decide) (by decide)]; exact n2, n3⟩, ⟨by rw [s3, upd_1, if_neg (by decide)]; exact n4, by rw [i2 23 (by decide) (by decide) (by decide) (by decide) (by decide), m2 23 (by decide) (by decide)]; exact n5, n6⟩, fun q hq => ?_, fun l hl => ?_, ?_⟩, by rw [s1, upd_1, if_neg (by decide)]; exact stC_3z rfl, by rw [c5]; exact m2 14 (by decide) (by decide)⟩, fun h => absurd rfl h, cls σ' run2, mdl⟩
    · rw [so 4 (by decide) (by decide), so 5 (by decide) (by decide), iz 9 (by decide), iz 10 (by decide)]
      exact n7 q hq
    · rw [so 6 (by decide) (by decide), so 7 (by decide) (by decide), so 8 (by decide) (by decide), so 9 (by decide) (by decide), so 10 (by decide) (by decide), iz 11 (by decide), iz 12 (by decide), iz 13 (by decide), iz 14 (by decide)]
      exact n8 l hl
    · refine Or.inr ⟨by rw [s1]; rfl, _, v1, by rw [s3]; rfl, c2⟩
  · have run2 : ∀ (d : Nat) (P : mm_O), mm_run shC (d + 4) 7 [.ref 1, .int (nI p)] (stC σ e 0 p) P = P none (stC σ (if endB B T a2 = 0 then a2 + 1 else a2) r w) := fun d P => by rw [run, if_neg z]
    refine ⟨_, ν, r, _, hr3, fun k a _ => stC_o a, stC_q (by decide) (by decide) (by decide), fk, fq, stC_4 _ _ _ _, pe_le la2.2.1, stC_5 _ _ _ _, fun h => absurd h z, fun _ => by rw [stC_3n z, i5 z], cls _ run2, mdl⟩
theorem both_none (hC : TXC σ B T) {p e : Nat} (hp : p < T) (h4 : σ.1 1 4 = nI p) (h5 : σ.1 1 5 = 0) (he : enF_ (isL B) T p = e) (hnP : ¬ wdP B p e) (hnL : ¬ wdL B p e) (hnS : ¬ wdS B p e) {μ1 : mm_M} (m1 : ∀ k, k ≠ 0 → μ1.1 k = μ.1 k) (m2 : ∀ q, q ≠ 15 → q ≠ 17 → μ1.1 0 q = μ.1 0 q) (m3 : μ1.1 0 15 = nI p) (m5 : ∀ (d : Nat) (P : mm_O), mm_run shM (d + 6) 96 [.ref 0] μ P = mm_at shM (d + 5) 96 [] P 93 [.ref 0, .int (-1), .null] [] μ1) : CB σ μ B T p := by
  have l0 := en_b (c := isL B) (show p ≤ T by omega)
  rw [he] at l0
  obtain ⟨bp, bp1, bp2⟩ := s_isWord_place (hC.st e 0 p) l0.1 l0.2.1 (stC_4 σ e 0 p)
  have hbp : bp = false := by
    cases bp with
    | true => exact absurd (bp1.mp rfl) hnP
    | false => rfl
  subst hbp
  obtain ⟨bl, bl1, bl2⟩ := s_isWord_letter (hC.st e 0 p) l0.1 l0.2.1 (stC_4 σ e 0 p)
  have hbl : bl = false := by
    cases bl with
    | true => exact absurd (bl1.mp rfl) hnL
    | false => rfl
  subst hbl
  obtain ⟨bw, bw1, bw2⟩ := s_isWord_stone (hC.st e 0 p) l0.1 l0.2.1 (stC_4 σ e 0 p)
  have hbw : bw = false := by
    cases bw with
    | true => exact absurd (bw1.mp rfl) hnS
    | false => rfl
  subst hbw
  have fl : ∀ (d : Nat) (P : mm_O), mm_run shC (d + 1) 10 [.ref 1, .int 1, .int (nI p)] (stC σ e 0 p) P = P none (stC σ e 1 p) := fun d P => s_fl (r := 0) (r' := 1) (by decide) (by decide) d P
  refine ⟨stC σ e 1 p, mm_sti μ1 0 14 (nI p), 1, e, by decide, fun k a _ => stC_o a, stC_q (by decide) (by decide) (by decide), fun k a _ => by rw [mm_sti_set, mm_set_ne _ _ a]; exact m1 k a, fun q a => by rw [mm_sti_set, mm_set_same, upd_1, if_neg (by omega)]; exact m2 q (by omega) (by omega), stC_4 _ _ _ _, l0.2.1, stC_5 _ _ _ _, fun h => absurd h (by decide), fun _ => by rw [stC_3n (by decide), mm_sti_set, mm_set_same, upd_1, if_pos rfl], fun d P => ?_, fun d P => ?_⟩
  · rw [s_word hC (by omega) h4 h5 he]
    simp only [qX1_readClause_0, qX1_readClause_1, qX1_readClause_4, qX1_readClause_6, qX1_readClause_9, qX1_readClause_10, qX1_readClause_13, qX1_readClause_16, qX1_readClause_17, qX1_readClause_19, qX1_readClause_21, qX1_readClause_24, qX1_readClause_27, qX1_readClause_28, qX1_readClause_29, qX1_readClause_32, qX1_readClause_33, qX1_readClause_34, qX1_readClause_37, qX1_readClause_40, qX1_readClause_41, qX1_readClause_42, qX1_readClause_44, qX1_readClause_47, qX1_readClause_50, qX1_readClause_51, qX1_readClause_52, qX1_readClause_55, qX1_readClause_58, qX1_readClause_59, qX1_readClause_60, qX1_readClause_62, qX1_readClause_65, qX1_readClause_68, qX1_readClause_69, qX1_readClause_70, qX1_readClause_73, qX1_readClause_76, qX1_readClause_77, qX1_readClause_78, qX1_readClause_80, qX1_readClause_83, qX1_readClause_86, qX1_readClause_87, qX1_readClause_88, qX1_readClause_91, qX1_readClause_94, qX1_readClause_95, qX1_readClause_96, qX1_readClause_97, qX1_readClause_100, bp2, bl2, bw2, bI, Bool.false_eq_true, if_true, if_false, fl, Option.toList, List.cons_append, List.nil_append]
  · rw [m5]
    simp only [qX7_takeClause_0, qX7_takeClause_1, qX7_takeClause_4, qX7_takeClause_5, qX7_takeClause_8, qX7_takeClause_10, qX7_takeClause_12, qX7_takeClause_14, qX7_takeClause_16, qX7_takeClause_18, qX7_takeClause_21, qX7_takeClause_22, qX7_takeClause_25, qX7_takeClause_26, qX7_takeClause_29, qX7_takeClause_30, qX7_takeClause_33, qX7_takeClause_36, qX7_takeClause_38, qX7_takeClause_40, qX7_takeClause_42, qX7_takeClause_44, qX7_takeClause_46, qX7_takeClause_49, qX7_takeClause_50, qX7_takeClause_53, qX7_takeClause_54, qX7_takeClause_57, qX7_takeClause_58, qX7_takeClause_59, qX7_takeClause_62, qX7_takeClause_63, qX7_takeClause_66, qX7_takeClause_67, qX7_takeClause_70, qX7_takeClause_72, qX7_takeClause_74, qX7_takeClause_76, qX7_takeClause_78, qX7_takeClause_80, qX7_takeClause_83, qX7_takeClause_84, qX7_takeClause_87, qX7_takeClause_88, qX7_takeClause_91, qX7_takeClause_92, qX7_takeClause_93, qX7_takeClause_94, qX7_takeClause_97, qX7_takeClause_98, qX7_takeClause_99, qX7_takeClause_100, qX7_takeClause_103, qX7_takeClause_106, qX7_takeClause_107, qX7_takeClause_108, qX7_takeClause_111, qX7_takeClause_112, qX7_takeClause_115, qX7_takeClause_117, qX7_takeClause_120, qX7_takeClause_123, qX7_takeClause_124, qX7_takeClause_125, qX7_takeClause_128, qX7_takeClause_129, qX7_takeClause_132, qX7_takeClause_134, qX7_takeClause_137, qX7_takeClause_140, qX7_takeClause_141, qX7_takeClause_144, qX7_takeClause_147, qX7_takeClause_148, qX7_takeClause_149, qX7_takeClause_150, qX7_takeClause_153, qX7_takeClause_156, qX7_takeClause_157, qX7_takeClause_158, qX7_takeClause_159, qX7_takeClause_162, qX7_takeClause_165, qX7_takeClause_166, qX7_takeClause_167, qX7_takeClause_168, qX7_takeClause_169, qX7_takeClause_172, qX7_takeClause_173, qX7_takeClause_174, qX7_takeClause_176, qX7_takeClause_179, qX7_takeClause_180, qX7_takeClause_181, qX7_takeClause_182, qX7_takeClause_185, qX7_takeClause_188, qX7_takeClause_191, qX7_takeClause_192, qX7_takeClause_195, qX7_takeClause_196, qX7_takeClause_199, qX7_takeClause_202, qX7_takeClause_203, qX7_takeClause_206, qX7_takeClause_207, qX7_takeClause_208, qX7_takeClause_211, qX7_takeClause_212, qX7_takeClause_215, qX7_takeClause_217, qX7_takeClause_220, qX7_takeClause_221, qX7_takeClause_222, qX7_takeClause_223, qX7_takeClause_226, qX7_takeClause_229, qX7_takeClause_230, qX7_takeClause_231, qX7_takeClause_232, qX7_takeClause_235, qX7_takeClause_236, qX7_takeClause_237, qX7_takeClause_240, qX7_takeClause_241, show ¬ (0 : Int32) ≤ -1 by decide, if_false, m3, Mfails, Option.toList, List.cons_append, List.nil_append]
    rfl
theorem clause_both (hC : TXC σ B T) (hM : TXM μ B T) {p np nl : Nat} (hp : p < T) (hb : enF_ (isB B) T p = p) (h4 : σ.1 1 4 = nI p) (h5 : σ.1 1 5 = 0) (h15 : μ.1 0 15 = nI p) (pr : PR σ μ np nl) : CB σ μ B T p := by
  obtain ⟨μ1, K, m1, m2, m3, m4, mk, m5⟩ := s_Mkind hM (show p ≤ T by omega) hb h15 rfl
  rcases mk with ⟨hK, w⟩ | ⟨hK, w0, w⟩ | ⟨hK, w0, w1, w⟩ | ⟨hK, w0, w1, w⟩
  · subst hK; exact both_place hC hM hp h4 h5 pr rfl w m1 m2 m3 m4 m5
  · subst hK; exact both_letter hC hM hp h4 h5 pr rfl w0 w m1 m2 m3 m4 m5
  · subst hK; exact both_stone hC hM hp h4 h5 pr rfl w0 w1 w m1 m2 m3 m4 m5
  · subst hK; exact both_none hC hp h4 h5 rfl w0 w1 w m1 m2 m3 m5
end BO3
