/-! THE TEXT: letter, stone and no clause, on both sides -/
section BO2
variable {σ μ : mm_M} {B : Nat → Nat} {T : Nat}
theorem both_letter (hC : TXC σ B T) (hM : TXM μ B T) {p e np nl : Nat} (hp : p < T) (h4 : σ.1 1 4 = nI p) (h5 : σ.1 1 5 = 0) (pr : PR σ μ np nl) (he : enF_ (isL B) T p = e) (hnP : ¬ wdP B p e) (hw : wdL B p e) {μ1 : mm_M} (m1 : ∀ k, k ≠ 0 → μ1.1 k = μ.1 k) (m2 : ∀ q, q ≠ 15 → q ≠ 17 → μ1.1 0 q = μ.1 0 q) (m3 : μ1.1 0 15 = nI p) (m4 : μ1.1 0 17 = nI e) (m5 : ∀ (d : Nat) (P : mm_O), mm_run shM (d + 6) 96 [.ref 0] μ P = mm_at shM (d + 5) 96 [] P 93 [.ref 0, .int 1, .null] [] μ1) : CB σ μ B T p := by
  have l0 := en_b (c := isL B) (show p ≤ T by omega)
  rw [he] at l0
  obtain ⟨⟨n1, n2, n3⟩, ⟨n4, n5, n6⟩, n7, n8, n9⟩ := pr
  obtain ⟨ν, i1, i2, i3, i4, i5, i6⟩ := s_Mletter (mo := nI np - 1) (hM.f2 (m1 8 (by decide)) (m2 13 (by decide) (by decide))) l0.2.1 n6 m3 m4 (by rw [m2 23 (by decide) (by decide)]; exact n5) (by rw [m2 20 (by decide) (by decide), n2]) rfl rfl rfl rfl rfl rfl rfl rfl rfl rfl rfl rfl rfl rfl rfl rfl rfl rfl rfl
  have run := fun (d : Nat) (P : mm_O) => s_readLetter (mo := nI np - 1) hC (f := p) l0.2.1 n6 (by rw [n1]) n4 rfl rfl rfl rfl rfl rfl rfl rfl rfl rfl rfl rfl rfl rfl rfl rfl rfl rfl rfl d P
  have la1 := en_b (c := isB B) l0.2.1
  have le1 := en_b (c := isF B) la1.2.1
  have la2 := en_b (c := isB B) le1.2.1
  have le2 := en_b (c := isF B) la2.2.1
  have la3 := en_b (c := isB B) le2.2.1
  have le3 := en_b (c := isF B) la3.2.1
  have la4 := en_b (c := isB B) le3.2.1
  have le4 := en_b (c := isF B) la4.2.1
  have la5 := en_b (c := isB B) le4.2.1
  generalize enF_ (isB B) T e = a1 at *
  generalize enF_ (isF B) T a1 = e1 at *
  generalize enF_ (isB B) T e1 = a2 at *
  generalize enF_ (isF B) T a2 = e2 at *
  generalize enF_ (isB B) T e2 = a3 at *
  generalize enF_ (isF B) T a3 = e3 at *
  generalize enF_ (isB B) T e3 = a4 at *
  generalize enF_ (isF B) T a4 = e4 at *
  generalize enF_ (isB B) T e4 = a5 at *
  generalize fW (fR (fR (fR (fR (b0N nl) (badN B a1 e1 0 (nI np - 1))) (badN B a2 e2 1 99)) (badN B a3 e3 0 999)) (badN B a4 e4 0 99)) (fW (fR (fR (fR (b0N nl) (badN B a1 e1 0 (nI np - 1))) (badN B a2 e2 1 99)) (badN B a3 e3 0 999)) (fW (fR (fR (b0N nl) (badN B a1 e1 0 (nI np - 1))) (badN B a2 e2 1 99)) (fW (fR (b0N nl) (badN B a1 e1 0 (nI np - 1))) (fW (b0N nl) p a1) a2) a3) a4) a5 = w at *
  have hr3 : fR (fR (fR (fR (fR (b0N nl) (badN B a1 e1 0 (nI np - 1))) (badN B a2 e2 1 99)) (badN B a3 e3 0 999)) (badN B a4 e4 0 99)) (endB B T a5) ≤ 3 := fR_le (fR_le (fR_le (fR_le (fR_le b0N_le badN_le) badN_le) badN_le) badN_le) endB_le
  generalize hr : fR (fR (fR (fR (fR (b0N nl) (badN B a1 e1 0 (nI np - 1))) (badN B a2 e2 1 99)) (badN B a3 e3 0 999)) (badN B a4 e4 0 99)) (endB B T a5) = r at *
  have mdl : ∀ (d : Nat) (P : mm_O), mm_run shM (d + 6) 96 [.ref 0] μ P = P (some (.int (nI r))) ν := fun d P => by rw [m5]; exact i6 d P
  obtain ⟨bp, bp1, bp2⟩ := s_isWord_place (hC.st e 0 p) l0.1 l0.2.1 (stC_4 σ e 0 p)
  have hbp : bp = false := by
    cases bp with
    | true => exact absurd (bp1.mp rfl) hnP
    | false => rfl
  subst hbp
  obtain ⟨bw, bw1, bw2⟩ := s_isWord_letter (hC.st e 0 p) l0.1 l0.2.1 (stC_4 σ e 0 p)
  have hbw : bw = true := bw1.mpr hw
  subst hbw
  have fk : ∀ k, k ≠ 0 → k < 9 ∨ 14 < k → ν.1 k = μ.1 k := fun k a b => by rw [i1 k a (by omega) (by omega) (by omega) (by omega)]; exact m1 k a
  have fq : ∀ q, q < 14 ∨ 28 < q → ν.1 0 q = μ.1 0 q := fun q a => by rw [i2 q (by omega) (by omega) (by omega) (by omega) (by omega)]; exact m2 q (by omega) (by omega)
  have cls : ∀ (σ' : mm_M), (∀ (d : Nat) (P : mm_O), mm_run shC (d + 4) 6 [.ref 1, .int (nI p)] (stC σ e 0 p) P = P none σ') → ∀ (d : Nat) (P : mm_O), mm_run shC (d + 5) 4 [.ref 1] σ P = P none σ' := fun σ' hs d P => by
    rw [s_word hC (by omega) h4 h5 he]
    simp only [qX1_readClause_0, qX1_readClause_1, qX1_readClause_4, qX1_readClause_6, qX1_readClause_9, qX1_readClause_10, qX1_readClause_13, qX1_readClause_16, qX1_readClause_17, qX1_readClause_19, qX1_readClause_21, qX1_readClause_24, qX1_readClause_27, qX1_readClause_28, qX1_readClause_29, qX1_readClause_32, qX1_readClause_33, qX1_readClause_34, qX1_readClause_37, qX1_readClause_40, qX1_readClause_41, qX1_readClause_42, qX1_readClause_44, qX1_readClause_47, qX1_readClause_50, qX1_readClause_51, qX1_readClause_52, qX1_readClause_55, qX1_readClause_58, qX1_readClause_59, qX1_readClause_60, qX1_readClause_62, qX1_readClause_65, qX1_readClause_68, qX1_readClause_69, qX1_readClause_70, qX1_readClause_73, qX1_readClause_76, qX1_readClause_77, qX1_readClause_78, qX1_readClause_80, qX1_readClause_83, qX1_readClause_86, qX1_readClause_87, qX1_readClause_88, qX1_readClause_91, qX1_readClause_94, qX1_readClause_95, qX1_readClause_96, qX1_readClause_97, qX1_readClause_100, bp2, bw2, bI, Bool.false_eq_true, if_true, show ¬ (1 : Int32) = 0 by decide, if_false, hs, Option.toList, List.cons_append, List.nil_append]
  by_cases z : r = 0
  · subst z
    obtain ⟨z4, zE⟩ := fR_0 hr
    obtain ⟨z3, zb4⟩ := fR_0 z4
    obtain ⟨z2, zb3⟩ := fR_0 z3
    obtain ⟨z1, zb2⟩ := fR_0 z2
    obtain ⟨z0, zb1⟩ := fR_0 z1
    have hn7 : nl < 7 := by
      refine Decidable.byContradiction (fun q => ?_)
      rw [show b0N nl = 3 from if_pos (by omega)] at z0
      omega
    obtain ⟨c1, c2, ⟨c3, c4, c6, c7⟩, c5⟩ := i4 rfl
    have np0 : 0 < np := by
      rcases Nat.eq_zero_or_pos np with q | q
      · rw [q] at zb1
        unfold badN at zb1
        by_cases h0 : e1 = a1
        · rw [if_pos h0] at zb1; omega
        · rw [if_neg h0] at zb1
          have hv : vlN B a1 (min (e1 - a1) 3) < 10 ^ (min (e1 - a1) 3) := vlN_b (fun i hi => (of_decide_eq_true (le1.2.2.1 (a1 + i) (by omega) (by omega))).2)
          have : 10 ^ (min (e1 - a1) 3) ≤ 10 ^ 3 := Nat.pow_le_pow_right (by decide) (by omega)
          have lt : nI 0 - 1 < nI (vlN B a1 (min (e1 - a1) 3)) := Int32.lt_of_lt_of_le (show nI 0 - 1 < 0 by decide) (nI_pos' (by omega))
          rw [if_pos (Or.inr (Or.inr lt))] at zb1
          omega
      · exact q
    have v1 := (bad0 (lo := 0) (hi := np - 1) rfl (nI_sub (b := 1) (by omega)) (by decide) (by omega) zb1 le1.2.2.1).2
    have v2 := bad0 (lo := 1) (hi := 99) rfl rfl (by decide) (by decide) zb2 le2.2.2.1
    have v3 := (bad0 (lo := 0) (hi := 999) rfl rfl (by decide) (by decide) zb3 le3.2.2.1).2
    have v4 := (bad0 (lo := 0) (hi := 99) rfl rfl (by decide) (by decide) zb4 le4.2.2.1).2
    have hpe := pe_le (B := B) la5.2.1
    rw [if_pos zE] at hpe
    have run2 : ∀ (d : Nat) (P : mm_O), mm_run shC (d + 4) 6 [.ref 1, .int (nI p)] (stC σ e 0 p) P = P none (adL (stC σ (a5 + 1) 0 w) nl (vlN B a1 (min (e1 - a1) 3)) (vlN B a2 (min (e2 - a2) 3)) (vlN B a3 (min (e3 - a3) 3)) (vlN B a4 (min (e4 - a4) 3))) := fun d P => by rw [run, if_pos rfl, if_pos zE]
    generalize hσ' : adL (stC σ (a5 + 1) 0 w) nl (vlN B a1 (min (e1 - a1) 3)) (vlN B a2 (min (e2 - a2) 3)) (vlN B a3 (min (e3 - a3) 3)) (vlN B a4 (min (e4 - a4) 3)) = σ' at run2
    have s1 : σ'.1 1 = (stC σ (a5 + 1) 0 w).1 1 := by rw [← hσ']; simp [adL, mm_set_1]
    have so : ∀ k, k ≠ 1 → k ≠ 3 → k < 6 ∨ 10 < k → σ'.1 k = σ.1 k := fun k a b c => by rw [← hσ']; simp [adL, mm_set_1, b, stC, a, show k ≠ 6 by omega, show k ≠ 7 by omega, show k ≠ 8 by omega, show k ≠ 9 by omega, show k ≠ 10 by omega]
    have s6 : σ'.1 6 = upd (σ.1 6) nl (nI (vlN B a1 (min (e1 - a1) 3))) := by rw [← hσ']; simp [adL, mm_set_1, stC]
    have s7 : σ'.1 7 = upd (σ.1 7) nl (nI (vlN B a2 (min (e2 - a2) 3))) := by rw [← hσ']; simp [adL, mm_set_1, stC]
    have s8 : σ'.1 8 = upd (σ.1 8) nl (nI (vlN B a3 (min (e3 - a3) 3))) := by rw [← hσ']; simp [adL, mm_set_1, stC]
    have s9 : σ'.1 9 = upd (σ.1 9) nl (nI (vlN B a4 (min (e4 - a4) 3))) := by rw [← hσ']; simp [adL, mm_set_1, stC]
    have s10 : σ'.1 10 = upd (σ.1 10) nl 0 := by rw [← hσ']; simp [adL, mm_set_1, stC]
    have s3 : σ'.1 3 = upd (σ.1 3) 8 (nI (nl + 1)) := by rw [← hσ']; simp [adL, mm_set_1, stC]
    refine ⟨σ', ν, 0, a5 + 1, by decide, fun k a b => so k a (by omega) (by omega), by rw [s1]; exact stC_q (by decide) (by decide) (by decide), fk, fq, by rw [s1]; exact stC_4 _ _ _ _, hpe, by rw [s1]; exact stC_5 _ _ _ _, fun _ => ⟨by omega, c1, ⟨np, nl + 1, ⟨by rw [s3, upd_1, if_neg (by decide)]; exact n1, by rw [i2 20 (by decide) (by decide) (by decide) (by decide) (by decide), m2 20 (by decide) (by decide)]; exact n2, n3⟩, ⟨by rw [s3]; rfl, c2, by omega⟩, fun q hq => ?_, fun l hl => ?_, ?_⟩, by rw [s1]; exact stC_3z rfl, by rw [c5]; exact m2 14 (by decide) (by decide)⟩, fun h => absurd rfl h, cls σ' run2, mdl⟩
    · rw [so 4 (by decide) (by decide) (by omega), so 5 (by decide) (by decide) (by omega), i1 9 (by decide) (by decide) (by decide) (by decide) (by decide), i1 10 (by decide) (by decide) (by decide) (by decide) (by decide), m1 9 (by decide), m1 10 (by decide)]
      exact n7 q hq
    · rw [s6, s7, s8, s9, s10, upd_1, upd_1, upd_1, upd_1, upd_1]
      by_cases e : l = nl
      · rw [if_pos e, if_pos e, if_pos e, if_pos e, if_pos e, e, c3, c4, c6, c7]
        exact ⟨⟨rfl, rfl, rfl, rfl, rfl⟩, ⟨_, by omega, rfl⟩, ⟨_, v2.1, v2.2, rfl⟩, ⟨_, Nat.zero_le _, v3, rfl⟩, ⟨_, Nat.zero_le _, v4, rfl⟩⟩
      · obtain ⟨o1, o2, o3, o4⟩ := i3 l e
        rw [if_neg e, if_neg e, if_neg e, if_neg e, if_neg e, o1, o2, o3, o4, m1 11 (by decide), m1 12 (by decide), m1 13 (by decide), m1 14 (by decide)]
        exact n8 l (by omega)
    · rw [s1, s3, stC_q (by decide) (by decide) (by decide), upd_1, if_neg (by decide), i2 28 (by decide) (by decide) (by decide) (by decide) (by decide), m2 28 (by decide) (by decide)]
      exact n9
  · have run2 : ∀ (d : Nat) (P : mm_O), mm_run shC (d + 4) 6 [.ref 1, .int (nI p)] (stC σ e 0 p) P = P none (stC σ (if endB B T a5 = 0 then a5 + 1 else a5) r w) := fun d P => by rw [run, if_neg z]
    refine ⟨_, ν, r, _, hr3, fun k a _ => stC_o a, stC_q (by decide) (by decide) (by decide), fk, fq, stC_4 _ _ _ _, pe_le la5.2.1, stC_5 _ _ _ _, fun h => absurd h z, fun _ => by rw [stC_3n z, i5 z], cls _ run2, mdl⟩
end BO2
