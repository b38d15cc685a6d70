/-! THE TEXT: a clause, on both sides -/
def PR (σ μ : mm_M) (np nl : Nat) : Prop := (σ.1 3 7 = nI np ∧ μ.1 0 20 = nI np ∧ np ≤ 7) ∧ (σ.1 3 8 = nI nl ∧ μ.1 0 23 = nI nl ∧ nl ≤ 7) ∧
  (∀ p, p < np → σ.1 4 p = μ.1 9 p ∧ σ.1 5 p = μ.1 10 p ∧ rg (σ.1 4 p) 0 99 ∧ rg (σ.1 5 p) 0 99) ∧
  (∀ l, l < nl → (σ.1 6 l = μ.1 11 l ∧ σ.1 7 l = μ.1 12 l ∧ σ.1 8 l = μ.1 13 l ∧ σ.1 9 l = μ.1 14 l ∧ σ.1 10 l = 0) ∧ (∃ g, g < np ∧ σ.1 6 l = nI g) ∧ rg (σ.1 7 l) 1 99 ∧ rg (σ.1 8 l) 0 999 ∧ rg (σ.1 9 l) 0 99) ∧
  ((σ.1 1 6 = 0 ∧ σ.1 3 9 = 1 ∧ μ.1 0 28 = -1) ∨ (σ.1 1 6 = 1 ∧ ∃ c, c ≤ 99 ∧ σ.1 3 9 = nI c ∧ μ.1 0 28 = nI c))
theorem fR_0 {r b : Nat} (h : fR r b = 0) : r = 0 ∧ b = 0 := by
  unfold fR at h
  by_cases z : r = 0
  · rw [if_pos z] at h; exact ⟨z, h⟩
  · rw [if_neg z] at h; exact absurd h z
theorem bad0 {B : Nat → Nat} {a e lo hi : Nat} {x y : Int32} (hx : x = nI lo) (hy : y = nI hi) (hlo : lo < 1000) (hhi : hi < 1000) (h : badN B a e x y = 0) (hF : ∀ i, a ≤ i → i < e → isF B i = true) : lo ≤ vlN B a (min (e - a) 3) ∧ vlN B a (min (e - a) 3) ≤ hi := by
  have hv : vlN B a (min (e - a) 3) < 10 ^ (min (e - a) 3) := vlN_b (fun i hi => (of_decide_eq_true (hF (a + i) (by omega) (by omega))).2)
  have : 10 ^ (min (e - a) 3) ≤ 10 ^ 3 := Nat.pow_le_pow_right (by decide) (by omega)
  unfold badN at h
  by_cases h0 : e = a
  · rw [if_pos h0] at h; omega
  · rw [if_neg h0] at h
    by_cases h1 : 3 < e - a ∨ nI (vlN B a (min (e - a) 3)) < x ∨ y < nI (vlN B a (min (e - a) 3))
    · rw [if_pos h1] at h; omega
    · have h2 : ¬ nI (vlN B a (min (e - a) 3)) < x := fun q => h1 (Or.inr (Or.inl q))
      have h3 : ¬ y < nI (vlN B a (min (e - a) 3)) := fun q => h1 (Or.inr (Or.inr q))
      rw [hx, nI_add_lt (by omega) (by omega)] at h2
      rw [hy, nI_add_lt (by omega) (by omega)] at h3
      omega
section BO
variable {σ μ : mm_M} {B : Nat → Nat} {T : Nat}
theorem st_self {p w : Nat} (h4 : σ.1 1 4 = nI p) (h5 : σ.1 1 5 = 0) : stC σ p 0 w = σ := by
  unfold stC
  rw [if_pos rfl, ← h4, show nI 0 = σ.1 1 5 by rw [h5]; rfl]
  have : upd (upd (upd (σ.1 1) 4 (σ.1 1 4)) 5 (σ.1 1 5)) 3 (σ.1 1 3) = σ.1 1 := by
    funext q
    simp only [upd_1]
    by_cases q3 : q = 3
    · simp [q3]
    · by_cases q5 : q = 5
      · simp [q5]
      · by_cases q4 : q = 4
        · simp [q4]
        · simp [q3, q4, q5]
  rw [this, mm_set_self]
/-- the class up to the word -/
theorem s_word (hC : TXC σ B T) {p e : Nat} (hp : p ≤ T) (h4 : σ.1 1 4 = nI p) (h5 : σ.1 1 5 = 0) (he : enF_ (isL B) T p = e) (d : Nat) (P : mm_O) : mm_run shC (d + 5) 4 [.ref 1] σ P = mm_at shC (d + 4) 4 [] P 40 [.ref 1, .int (nI p)] [] (stC σ e 0 p) := by
  have f1 := s_letters_loop (a1 := .int (nI p)) (d := d + 2) (P := P) (T - p) p σ (by omega) hC h4
  rw [he] at f1
  have e1 : mm_set σ 1 (upd (σ.1 1) 4 (nI e)) = stC σ e 0 p := by
    have : stC σ e 0 p = posC (stC σ p 0 p) e := pos_st.symm
    rw [this, st_self h4 h5]
    rfl
  rw [e1] at f1
  rw [in_X1_readClause]
  simp only [qX1_readClause_0, qX1_readClause_1, qX1_readClause_4, qX1_readClause_6, qX1_readClause_9, qX1_readClause_10, qX1_readClause_13, qX1_readClause_16, qX1_readClause_17, qX1_readClause_19, qX1_readClause_21, qX1_readClause_24, qX1_readClause_27, qX1_readClause_28, qX1_readClause_29, qX1_readClause_32, qX1_readClause_33, qX1_readClause_34, qX1_readClause_37, qX1_readClause_41, qX1_readClause_42, qX1_readClause_44, qX1_readClause_47, qX1_readClause_50, qX1_readClause_51, qX1_readClause_52, qX1_readClause_55, qX1_readClause_58, qX1_readClause_59, qX1_readClause_60, qX1_readClause_62, qX1_readClause_65, qX1_readClause_68, qX1_readClause_69, qX1_readClause_70, qX1_readClause_73, qX1_readClause_76, qX1_readClause_77, qX1_readClause_78, qX1_readClause_80, qX1_readClause_83, qX1_readClause_86, qX1_readClause_87, qX1_readClause_88, qX1_readClause_91, qX1_readClause_94, qX1_readClause_95, qX1_readClause_96, qX1_readClause_97, qX1_readClause_100, h4]
  exact f1
def CB (σ μ : mm_M) (B : Nat → Nat) (T p : Nat) : Prop := ∃ (σ' μ' : mm_M) (r p' : Nat), r ≤ 3 ∧ (∀ k, k ≠ 1 → k < 3 ∨ 10 < k → σ'.1 k = σ.1 k) ∧ σ'.1 1 2 = σ.1 1 2 ∧ (∀ k, k ≠ 0 → k < 9 ∨ 14 < k → μ'.1 k = μ.1 k) ∧ (∀ q, q < 14 ∨ 28 < q → μ'.1 0 q = μ.1 0 q) ∧ σ'.1 1 4 = nI p' ∧ p' ≤ T ∧ σ'.1 1 5 = nI r ∧ (r = 0 → p < p' ∧ μ'.1 0 15 = nI p' ∧ (∃ np' nl', PR σ' μ' np' nl') ∧ σ'.1 1 3 = σ.1 1 3 ∧ μ'.1 0 14 = μ.1 0 14) ∧ (r ≠ 0 → σ'.1 1 3 = μ'.1 0 14) ∧ (∀ (d : Nat) (P : mm_O), mm_run shC (d + 5) 4 [.ref 1] σ P = P none σ') ∧ ∀ (d : Nat) (P : mm_O), mm_run shM (d + 6) 96 [.ref 0] μ P = P (some (.int (nI r))) μ'
theorem stC_3z {e r w : Nat} (h : r = 0) : (stC σ e r w).1 1 3 = σ.1 1 3 := by unfold stC; rw [mm_set_same, upd_1, if_pos rfl, if_pos h]
theorem stC_3n {e r w : Nat} (h : r ≠ 0) : (stC σ e r w).1 1 3 = nI w := by unfold stC; rw [mm_set_same, upd_1, if_pos rfl, if_neg h]
theorem pe_le {a : Nat} (ha : a ≤ T) : (if endB B T a = 0 then a + 1 else a) ≤ T := by
  by_cases h : a < T ∧ B a = 59
  · rw [if_pos (show endB B T a = 0 from if_pos h)]; omega
  · rw [if_neg (show ¬ endB B T a = 0 by unfold endB; rw [if_neg h]; decide)]; exact ha
theorem both_place (hC : TXC σ B T) (hM : TXM μ B T) {p e np nl : Nat} (hp : p < T) (h4 : σ.1 1 4 = nI p) (h5 : σ.1 1 5 = 0) (pr : PR σ μ np nl) (he : enF_ (isL B) T p = e) (hw : wdP B p e) {μ1 : mm_M} (m1 : ∀ k, k ≠ 0 → μ1.1 k = μ.1 k) (m2 : ∀ q, q ≠ 15 → q ≠ 17 → μ1.1 0 q = μ.1 0 q) (m3 : μ1.1 0 15 = nI p) (m4 : μ1.1 0 17 = nI e) (m5 : ∀ (d : Nat) (P : mm_O), mm_run shM (d + 6) 96 [.ref 0] μ P = mm_at shM (d + 5) 96 [] P 93 [.ref 0, .int 0, .null] [] μ1) : CB σ μ B T p := by
  have l0 := en_b (c := isL B) (show p ≤ T by omega)
  rw [he] at l0
  obtain ⟨⟨n1, n2, n3⟩, ⟨n4, n5, n6⟩, n7, n8, n9⟩ := pr
  obtain ⟨ν, i1, i2, i3, i4, i5, i6⟩ := s_Mplace (hM.f2 (m1 8 (by decide)) (m2 13 (by decide) (by decide))) l0.2.1 n3 m3 m4 (by rw [m2 20 (by decide) (by decide)]; exact n2) rfl rfl rfl rfl rfl rfl rfl
  have run := fun (d : Nat) (P : mm_O) => s_readPlace hC (f := p) l0.2.1 n3 n1 rfl rfl rfl rfl rfl rfl rfl d P
  have la1 := en_b (c := isB B) l0.2.1
  have le1 := en_b (c := isF B) la1.2.1
  have la2 := en_b (c := isB B) le1.2.1
  have le2 := en_b (c := isF B) la2.2.1
  have la3 := en_b (c := isB B) le2.2.1
  generalize enF_ (isB B) T e = a1 at *
  generalize enF_ (isF B) T a1 = e1 at *
  generalize enF_ (isB B) T e1 = a2 at *
  generalize enF_ (isF B) T a2 = e2 at *
  generalize enF_ (isB B) T e2 = a3 at *
  generalize fW (fR (fR (b0N np) (badN B a1 e1 0 99)) (badN B a2 e2 0 99)) (fW (fR (b0N np) (badN B a1 e1 0 99)) (fW (b0N np) p a1) a2) a3 = w at *
  have hr3 : fR (fR (fR (b0N np) (badN B a1 e1 0 99)) (badN B a2 e2 0 99)) (endB B T a3) ≤ 3 := fR_le (fR_le (fR_le b0N_le badN_le) badN_le) endB_le
  generalize hr : fR (fR (fR (b0N np) (badN B a1 e1 0 99)) (badN B a2 e2 0 99)) (endB B T a3) = r at *
  have mdl : ∀ (d : Nat) (P : mm_O), mm_run shM (d + 6) 96 [.ref 0] μ P = P (some (.int (nI r))) ν := fun d P => by rw [m5]; exact i6 d P
  obtain ⟨bw, bw1, bw2⟩ := s_isWord_place (hC.st e 0 p) l0.1 l0.2.1 (stC_4 σ e 0 p)
  have hbw : bw = true := bw1.mpr hw
  subst hbw
  have fk : ∀ k, k ≠ 0 → k < 9 ∨ 14 < k → ν.1 k = μ.1 k := fun k a b => by rw [i1 k a (by omega) (by omega)]; exact m1 k a
  have fq : ∀ q, q < 14 ∨ 28 < q → ν.1 0 q = μ.1 0 q := fun q a => by rw [i2 q (by omega) (by omega) (by omega) (by omega) (by omega)]; exact m2 q (by omega) (by omega)
  have cls : ∀ (σ' : mm_M), (∀ (d : Nat) (P : mm_O), mm_run shC (d + 4) 5 [.ref 1, .int (nI p)] (stC σ e 0 p) P = P none σ') → ∀ (d : Nat) (P : mm_O), mm_run shC (d + 5) 4 [.ref 1] σ P = P none σ' := fun σ' hs d P => by
    rw [s_word hC (by omega) h4 h5 he]
    simp only [qX1_readClause_0, qX1_readClause_1, qX1_readClause_4, qX1_readClause_6, qX1_readClause_9, qX1_readClause_10, qX1_readClause_13, qX1_readClause_16, qX1_readClause_17, qX1_readClause_19, qX1_readClause_21, qX1_readClause_24, qX1_readClause_27, qX1_readClause_28, qX1_readClause_29, qX1_readClause_32, qX1_readClause_33, qX1_readClause_34, qX1_readClause_37, qX1_readClause_40, qX1_readClause_41, qX1_readClause_42, qX1_readClause_44, qX1_readClause_47, qX1_readClause_50, qX1_readClause_51, qX1_readClause_52, qX1_readClause_55, qX1_readClause_58, qX1_readClause_59, qX1_readClause_60, qX1_readClause_62, qX1_readClause_65, qX1_readClause_68, qX1_readClause_69, qX1_readClause_70, qX1_readClause_73, qX1_readClause_76, qX1_readClause_77, qX1_readClause_78, qX1_readClause_80, qX1_readClause_83, qX1_readClause_86, qX1_readClause_87, qX1_readClause_88, qX1_readClause_91, qX1_readClause_94, qX1_readClause_95, qX1_readClause_96, qX1_readClause_97, qX1_readClause_100, bw2, bI, if_true, show ¬ (1 : Int32) = 0 by decide, if_false, hs, Option.toList, List.cons_append, List.nil_append]
  by_cases z : r = 0
  · subst z
    obtain ⟨z3, zE⟩ := fR_0 hr
    obtain ⟨z2, zb2⟩ := fR_0 z3
    obtain ⟨z1, zb1⟩ := fR_0 z2
    have hn7 : np < 7 := by
      refine Decidable.byContradiction (fun q => ?_)
      rw [show b0N np = 3 from if_pos (by omega)] at z1
      omega
    obtain ⟨c1, c2, c3, c4, c5⟩ := i4 rfl
    have v1 := (bad0 (lo := 0) (hi := 99) rfl rfl (by decide) (by decide) zb1 le1.2.2.1).2
    have v2 := (bad0 (lo := 0) (hi := 99) rfl rfl (by decide) (by decide) zb2 le2.2.2.1).2
    have hpe := pe_le (B := B) la3.2.1
    rw [if_pos zE] at hpe
    have run2 : ∀ (d : Nat) (P : mm_O), mm_run shC (d + 4) 5 [.ref 1, .int (nI p)] (stC σ e 0 p) P = P none (adP (stC σ (a3 + 1) 0 w) np (vlN B a1 (min (e1 - a1) 3)) (vlN B a2 (min (e2 - a2) 3))) := fun d P => by rw [run, if_pos rfl, if_pos zE]
    generalize hσ' : adP (stC σ (a3 + 1) 0 w) np (vlN B a1 (min (e1 - a1) 3)) (vlN B a2 (min (e2 - a2) 3)) = σ' at run2
    have s1 : σ'.1 1 = (stC σ (a3 + 1) 0 w).1 1 := by rw [← hσ']; simp [adP, mm_set_1]
    have so : ∀ k, k ≠ 1 → k ≠ 3 → k ≠ 4 → k ≠ 5 → σ'.1 k = σ.1 k := fun k a b c d => by rw [← hσ']; simp [adP, mm_set_1, b, c, d, stC, a]
    have s4 : σ'.1 4 = upd (σ.1 4) np (nI (vlN B a1 (min (e1 - a1) 3))) := by rw [← hσ']; simp [adP, mm_set_1, stC]
    have s5 : σ'.1 5 = upd (σ.1 5) np (nI (vlN B a2 (min (e2 - a2) 3))) := by rw [← hσ']; simp [adP, mm_set_1, stC]
    have s3 : σ'.1 3 = upd (σ.1 3) 7 (nI (np + 1)) := by rw [← hσ']; simp [adP, mm_set_1, stC]
    refine ⟨σ', ν, 0, a3 + 1, by decide, fun k a b => so k a (by omega) (by omega) (by omega), by rw [s1]; exact stC_q (by decide) (by decide) (by decide), fk, fq, by rw [s1]; exact stC_4 _ _ _ _, hpe, by rw [s1]; exact stC_5 _ _ _ _, fun _ => ⟨by omega, c1, ⟨np + 1, nl, ⟨by rw [s3]; rfl, c2, by omega⟩, ⟨by rw [s3, upd_1, if_neg (by decide)]; exact n4, by rw [i2 23 (by decide) (by decide) (by decide) (by decide) (by decide), m2 23 (by decide) (by decide)]; exact n5, n6⟩, fun q hq => ?_, fun l hl => ?_, ?_⟩, by rw [s1]; exact stC_3z rfl, by rw [c5]; exact m2 14 (by decide) (by decide)⟩, fun h => absurd rfl h, cls σ' run2, mdl⟩
    · rw [s4, s5, upd_1, upd_1]
      by_cases e : q = np
      · rw [if_pos e, if_pos e, e, c3, c4]
        exact ⟨rfl, rfl, ⟨_, by omega, v1, rfl⟩, ⟨_, by omega, v2, rfl⟩⟩
      · rw [if_neg e, if_neg e, (i3 q e).1, (i3 q e).2, m1 9 (by decide), m1 10 (by decide)]
        exact n7 q (by omega)
    · rw [so 6 (by decide) (by decide) (by decide) (by decide), so 7 (by decide) (by decide) (by decide) (by decide), so 8 (by decide) (by decide) (by decide) (by decide), so 9 (by decide) (by decide) (by decide) (by decide), so 10 (by decide) (by decide) (by decide) (by decide), i1 11 (by decide) (by decide) (by decide), i1 12 (by decide) (by decide) (by decide), i1 13 (by decide) (by decide) (by decide), i1 14 (by decide) (by decide) (by decide), m1 11 (by decide), m1 12 (by decide), m1 13 (by decide), m1 14 (by decide)]
      obtain ⟨q1, ⟨g, hg, eg⟩, q2⟩ := n8 l hl
      exact ⟨q1, ⟨g, by omega, eg⟩, q2⟩
    · rw [s1, s3, stC_q (by decide) (by decide) (by decide), upd_1, if_neg (by decide), i2 28 (by decide) (by decide) (by decide) (by decide) (by decide), m2 28 (by decide) (by decide)]
      exact n9
  · have run2 : ∀ (d : Nat) (P : mm_O), mm_run shC (d + 4) 5 [.ref 1, .int (nI p)] (stC σ e 0 p) P = P none (stC σ (if endB B T a3 = 0 then a3 + 1 else a3) r w) := fun d P => by rw [run, if_neg z]
    refine ⟨_, ν, r, _, hr3, fun k a _ => stC_o a, stC_q (by decide) (by decide) (by decide), fk, fq, stC_4 _ _ _ _, pe_le la3.2.1, stC_5 _ _ _ _, fun h => absurd h z, fun _ => by rw [stC_3n z, i5 z], cls _ run2, mdl⟩
end BO
