/-! THE TEXT: the reference's clauses -/
section MC
variable {μ : mm_M} {B : Nat → Nat} {T : Nat}
theorem s_Minto_9 (h : TXM μ B T) {p i : Nat} (hi : i < 7) (hp : p ≤ T) (h15 : μ.1 0 15 = nI p) {least most : Int32} {a e : Nat} (ha : enF_ (isB B) T p = a) (he : enF_ (isF B) T a = e) : ∃ ν' : mm_M, (∀ k, k ≠ 0 → k ≠ 9 → ν'.1 k = μ.1 k) ∧ (∀ q, q ≠ 14 → q ≠ 15 → q ≠ 18 → q ≠ 19 → ν'.1 0 q = μ.1 0 q) ∧ (∀ j, j ≠ i → ν'.1 9 j = μ.1 9 j) ∧ (badN B a e least most = 0 → ν'.1 0 15 = nI e ∧ ν'.1 9 i = nI (vlN B a (min (e - a) 3)) ∧ ν'.1 0 14 = μ.1 0 14) ∧ (badN B a e least most ≠ 0 → ν'.1 0 14 = nI a) ∧ ∀ (d : Nat) (P : mm_O), mm_run shM (d + 3) 93 [.ref 0, .ref 9, .int (nI i), .int least, .int most] μ P = P (some (.int (nI (badN B a e least most)))) ν' := by
  obtain ⟨ν, i1, i2, i3, i4, i5⟩ := s_MtakeNumber h hp h15 (least := least) (most := most) ha he
  refine ⟨mm_set ν 9 (upd (ν.1 9) i (ν.1 0 18)), fun k a b => by rw [mm_set_ne _ _ b]; exact i1 k a, fun q a b c d => by rw [mm_set_ne _ _ (by decide)]; exact i2 q a b c d, fun j hj => by rw [mm_set_same, upd_1, if_neg hj, i1 9 (by decide)], fun hb => ?_, fun hb => by rw [mm_set_ne _ _ (by decide)]; exact i4 hb, fun d P => ?_⟩
  · obtain ⟨c1, c2, c3⟩ := i3 hb
    refine ⟨by rw [mm_set_ne _ _ (by decide)]; exact c1, by rw [mm_set_same, upd_1, if_pos rfl]; exact c2, by rw [mm_set_ne _ _ (by decide)]; exact c3⟩
  · rw [in_X7_into]
    simp only [qX7_into_0, qX7_into_1, qX7_into_2, qX7_into_4, qX7_into_7, qX7_into_9, qX7_into_10, qX7_into_11, qX7_into_12, qX7_into_15a, qX7_into_15b, qX7_into_15c, qX7_into_15d, qX7_into_15e, qX7_into_15f, qX7_into_16, qX7_into_18, i5, show vp_in (nI i) 7 from vp_in_nI (by omega) (by decide), show (nI i).toNatClampNeg = i from nI_clamp (by omega), true_and, mm_sti_set, Option.toList, List.cons_append, List.nil_append]
theorem s_Minto_10 (h : TXM μ B T) {p i : Nat} (hi : i < 7) (hp : p ≤ T) (h15 : μ.1 0 15 = nI p) {least most : Int32} {a e : Nat} (ha : enF_ (isB B) T p = a) (he : enF_ (isF B) T a = e) : ∃ ν' : mm_M, (∀ k, k ≠ 0 → k ≠ 10 → ν'.1 k = μ.1 k) ∧ (∀ q, q ≠ 14 → q ≠ 15 → q ≠ 18 → q ≠ 19 → ν'.1 0 q = μ.1 0 q) ∧ (∀ j, j ≠ i → ν'.1 10 j = μ.1 10 j) ∧ (badN B a e least most = 0 → ν'.1 0 15 = nI e ∧ ν'.1 10 i = nI (vlN B a (min (e - a) 3)) ∧ ν'.1 0 14 = μ.1 0 14) ∧ (badN B a e least most ≠ 0 → ν'.1 0 14 = nI a) ∧ ∀ (d : Nat) (P : mm_O), mm_run shM (d + 3) 93 [.ref 0, .ref 10, .int (nI i), .int least, .int most] μ P = P (some (.int (nI (badN B a e least most)))) ν' := by
  obtain ⟨ν, i1, i2, i3, i4, i5⟩ := s_MtakeNumber h hp h15 (least := least) (most := most) ha he
  refine ⟨mm_set ν 10 (upd (ν.1 10) i (ν.1 0 18)), fun k a b => by rw [mm_set_ne _ _ b]; exact i1 k a, fun q a b c d => by rw [mm_set_ne _ _ (by decide)]; exact i2 q a b c d, fun j hj => by rw [mm_set_same, upd_1, if_neg hj, i1 10 (by decide)], fun hb => ?_, fun hb => by rw [mm_set_ne _ _ (by decide)]; exact i4 hb, fun d P => ?_⟩
  · obtain ⟨c1, c2, c3⟩ := i3 hb
    refine ⟨by rw [mm_set_ne _ _ (by decide)]; exact c1, by rw [mm_set_same, upd_1, if_pos rfl]; exact c2, by rw [mm_set_ne _ _ (by decide)]; exact c3⟩
  · rw [in_X7_into]
    simp only [qX7_into_0, qX7_into_1, qX7_into_2, qX7_into_4, qX7_into_7, qX7_into_9, qX7_into_10, qX7_into_11, qX7_into_12, qX7_into_15a, qX7_into_15b, qX7_into_15c, qX7_into_15d, qX7_into_15e, qX7_into_15f, qX7_into_16, qX7_into_18, i5, show vp_in (nI i) 7 from vp_in_nI (by omega) (by decide), show (nI i).toNatClampNeg = i from nI_clamp (by omega), true_and, mm_sti_set, Option.toList, List.cons_append, List.nil_append]
theorem s_Minto_11 (h : TXM μ B T) {p i : Nat} (hi : i < 7) (hp : p ≤ T) (h15 : μ.1 0 15 = nI p) {least most : Int32} {a e : Nat} (ha : enF_ (isB B) T p = a) (he : enF_ (isF B) T a = e) : ∃ ν' : mm_M, (∀ k, k ≠ 0 → k ≠ 11 → ν'.1 k = μ.1 k) ∧ (∀ q, q ≠ 14 → q ≠ 15 → q ≠ 18 → q ≠ 19 → ν'.1 0 q = μ.1 0 q) ∧ (∀ j, j ≠ i → ν'.1 11 j = μ.1 11 j) ∧ (badN B a e least most = 0 → ν'.1 0 15 = nI e ∧ ν'.1 11 i = nI (vlN B a (min (e - a) 3)) ∧ ν'.1 0 14 = μ.1 0 14) ∧ (badN B a e least most ≠ 0 → ν'.1 0 14 = nI a) ∧ ∀ (d : Nat) (P : mm_O), mm_run shM (d + 3) 93 [.ref 0, .ref 11, .int (nI i), .int least, .int most] μ P = P (some (.int (nI (badN B a e least most)))) ν' := by
  obtain ⟨ν, i1, i2, i3, i4, i5⟩ := s_MtakeNumber h hp h15 (least := least) (most := most) ha he
  refine ⟨mm_set ν 11 (upd (ν.1 11) i (ν.1 0 18)), fun k a b => by rw [mm_set_ne _ _ b]; exact i1 k a, fun q a b c d => by rw [mm_set_ne _ _ (by decide)]; exact i2 q a b c d, fun j hj => by rw [mm_set_same, upd_1, if_neg hj, i1 11 (by decide)], fun hb => ?_, fun hb => by rw [mm_set_ne _ _ (by decide)]; exact i4 hb, fun d P => ?_⟩
  · obtain ⟨c1, c2, c3⟩ := i3 hb
    refine ⟨by rw [mm_set_ne _ _ (by decide)]; exact c1, by rw [mm_set_same, upd_1, if_pos rfl]; exact c2, by rw [mm_set_ne _ _ (by decide)]; exact c3⟩
  · rw [in_X7_into]
    simp only [qX7_into_0, qX7_into_1, qX7_into_2, qX7_into_4, qX7_into_7, qX7_into_9, qX7_into_10, qX7_into_11, qX7_into_12, qX7_into_15a, qX7_into_15b, qX7_into_15c, qX7_into_15d, qX7_into_15e, qX7_into_15f, qX7_into_16, qX7_into_18, i5, show vp_in (nI i) 7 from vp_in_nI (by omega) (by decide), show (nI i).toNatClampNeg = i from nI_clamp (by omega), true_and, mm_sti_set, Option.toList, List.cons_append, List.nil_append]
theorem s_Minto_12 (h : TXM μ B T) {p i : Nat} (hi : i < 7) (hp : p ≤ T) (h15 : μ.1 0 15 = nI p) {least most : Int32} {a e : Nat} (ha : enF_ (isB B) T p = a) (he : enF_ (isF B) T a = e) : ∃ ν' : mm_M, (∀ k, k ≠ 0 → k ≠ 12 → ν'.1 k = μ.1 k) ∧ (∀ q, q ≠ 14 → q ≠ 15 → q ≠ 18 → q ≠ 19 → ν'.1 0 q = μ.1 0 q) ∧ (∀ j, j ≠ i → ν'.1 12 j = μ.1 12 j) ∧ (badN B a e least most = 0 → ν'.1 0 15 = nI e ∧ ν'.1 12 i = nI (vlN B a (min (e - a) 3)) ∧ ν'.1 0 14 = μ.1 0 14) ∧ (badN B a e least most ≠ 0 → ν'.1 0 14 = nI a) ∧ ∀ (d : Nat) (P : mm_O), mm_run shM (d + 3) 93 [.ref 0, .ref 12, .int (nI i), .int least, .int most] μ P = P (some (.int (nI (badN B a e least most)))) ν' := by
  obtain ⟨ν, i1, i2, i3, i4, i5⟩ := s_MtakeNumber h hp h15 (least := least) (most := most) ha he
  refine ⟨mm_set ν 12 (upd (ν.1 12) i (ν.1 0 18)), fun k a b => by rw [mm_set_ne _ _ b]; exact i1 k a, fun q a b c d => by rw [mm_set_ne _ _ (by decide)]; exact i2 q a b c d, fun j hj => by rw [mm_set_same, upd_1, if_neg hj, i1 12 (by decide)], fun hb => ?_, fun hb => by rw [mm_set_ne _ _ (by decide)]; exact i4 hb, fun d P => ?_⟩
  · obtain ⟨c1, c2, c3⟩ := i3 hb
    refine ⟨by rw [mm_set_ne _ _ (by decide)]; exact c1, by rw [mm_set_same, upd_1, if_pos rfl]; exact c2, by rw [mm_set_ne _ _ (by decide)]; exact c3⟩
  · rw [in_X7_into]
    simp only [qX7_into_0, qX7_into_1, qX7_into_2, qX7_into_4, qX7_into_7, qX7_into_9, qX7_into_10, qX7_into_11, qX7_into_12, qX7_into_15a, qX7_into_15b, qX7_into_15c, qX7_into_15d, qX7_into_15e, qX7_into_15f, qX7_into_16, qX7_into_18, i5, show vp_in (nI i) 7 from vp_in_nI (by omega) (by decide), show (nI i).toNatClampNeg = i from nI_clamp (by omega), true_and, mm_sti_set, Option.toList, List.cons_append, List.nil_append]
theorem s_Minto_13 (h : TXM μ B T) {p i : Nat} (hi : i < 7) (hp : p ≤ T) (h15 : μ.1 0 15 = nI p) {least most : Int32} {a e : Nat} (ha : enF_ (isB B) T p = a) (he : enF_ (isF B) T a = e) : ∃ ν' : mm_M, (∀ k, k ≠ 0 → k ≠ 13 → ν'.1 k = μ.1 k) ∧ (∀ q, q ≠ 14 → q ≠ 15 → q ≠ 18 → q ≠ 19 → ν'.1 0 q = μ.1 0 q) ∧ (∀ j, j ≠ i → ν'.1 13 j = μ.1 13 j) ∧ (badN B a e least most = 0 → ν'.1 0 15 = nI e ∧ ν'.1 13 i = nI (vlN B a (min (e - a) 3)) ∧ ν'.1 0 14 = μ.1 0 14) ∧ (badN B a e least most ≠ 0 → ν'.1 0 14 = nI a) ∧ ∀ (d : Nat) (P : mm_O), mm_run shM (d + 3) 93 [.ref 0, .ref 13, .int (nI i), .int least, .int most] μ P = P (some (.int (nI (badN B a e least most)))) ν' := by
  obtain ⟨ν, i1, i2, i3, i4, i5⟩ := s_MtakeNumber h hp h15 (least := least) (most := most) ha he
  refine ⟨mm_set ν 13 (upd (ν.1 13) i (ν.1 0 18)), fun k a b => by rw [mm_set_ne _ _ b]; exact i1 k a, fun q a b c d => by rw [mm_set_ne _ _ (by decide)]; exact i2 q a b c d, fun j hj => by rw [mm_set_same, upd_1, if_neg hj, i1 13 (by decide)], fun hb => ?_, fun hb => by rw [mm_set_ne _ _ (by decide)]; exact i4 hb, fun d P => ?_⟩
  · obtain ⟨c1, c2, c3⟩ := i3 hb
    refine ⟨by rw [mm_set_ne _ _ (by decide)]; exact c1, by rw [mm_set_same, upd_1, if_pos rfl]; exact c2, by rw [mm_set_ne _ _ (by decide)]; exact c3⟩
  · rw [in_X7_into]
    simp only [qX7_into_0, qX7_into_1, qX7_into_2, qX7_into_4, qX7_into_7, qX7_into_9, qX7_into_10, qX7_into_11, qX7_into_12, qX7_into_15a, qX7_into_15b, qX7_into_15c, qX7_into_15d, qX7_into_15e, qX7_into_15f, qX7_into_16, qX7_into_18, i5, show vp_in (nI i) 7 from vp_in_nI (by omega) (by decide), show (nI i).toNatClampNeg = i from nI_clamp (by omega), true_and, mm_sti_set, Option.toList, List.cons_append, List.nil_append]
theorem s_Minto_14 (h : TXM μ B T) {p i : Nat} (hi : i < 7) (hp : p ≤ T) (h15 : μ.1 0 15 = nI p) {least most : Int32} {a e : Nat} (ha : enF_ (isB B) T p = a) (he : enF_ (isF B) T a = e) : ∃ ν' : mm_M, (∀ k, k ≠ 0 → k ≠ 14 → ν'.1 k = μ.1 k) ∧ (∀ q, q ≠ 14 → q ≠ 15 → q ≠ 18 → q ≠ 19 → ν'.1 0 q = μ.1 0 q) ∧ (∀ j, j ≠ i → ν'.1 14 j = μ.1 14 j) ∧ (badN B a e least most = 0 → ν'.1 0 15 = nI e ∧ ν'.1 14 i = nI (vlN B a (min (e - a) 3)) ∧ ν'.1 0 14 = μ.1 0 14) ∧ (badN B a e least most ≠ 0 → ν'.1 0 14 = nI a) ∧ ∀ (d : Nat) (P : mm_O), mm_run shM (d + 3) 93 [.ref 0, .ref 14, .int (nI i), .int least, .int most] μ P = P (some (.int (nI (badN B a e least most)))) ν' := by
  obtain ⟨ν, i1, i2, i3, i4, i5⟩ := s_MtakeNumber h hp h15 (least := least) (most := most) ha he
  refine ⟨mm_set ν 14 (upd (ν.1 14) i (ν.1 0 18)), fun k a b => by rw [mm_set_ne _ _ b]; exact i1 k a, fun q a b c d => by rw [mm_set_ne _ _ (by decide)]; exact i2 q a b c d, fun j hj => by rw [mm_set_same, upd_1, if_neg hj, i1 14 (by decide)], fun hb => ?_, fun hb => by rw [mm_set_ne _ _ (by decide)]; exact i4 hb, fun d P => ?_⟩
  · obtain ⟨c1, c2, c3⟩ := i3 hb
    refine ⟨by rw [mm_set_ne _ _ (by decide)]; exact c1, by rw [mm_set_same, upd_1, if_pos rfl]; exact c2, by rw [mm_set_ne _ _ (by decide)]; exact c3⟩
  · rw [in_X7_into]
    simp only [qX7_into_0, qX7_into_1, qX7_into_2, qX7_into_4, qX7_into_7, qX7_into_9, qX7_into_10, qX7_into_11, qX7_into_12, qX7_into_15a, qX7_into_15b, qX7_into_15c, qX7_into_15d, qX7_into_15e, qX7_into_15f, qX7_into_16, qX7_into_18, i5, show vp_in (nI i) 7 from vp_in_nI (by omega) (by decide), show (nI i).toNatClampNeg = i from nI_clamp (by omega), true_and, mm_sti_set, Option.toList, List.cons_append, List.nil_append]
theorem TXM.f2 {ν : mm_M} (h : TXM μ B T) (f8 : ν.1 8 = μ.1 8) (f0 : ν.1 0 13 = μ.1 0 13) : TXM ν B T := h.fr f0 f8
theorem s_MtakePlace (h : TXM μ B T) {e a1 e1 a2 e2 np : Nat} (hn : np < 7) (he : e ≤ T) (h15 : μ.1 0 15 = nI e) (h20 : μ.1 0 20 = nI np) (x1 : enF_ (isB B) T e = a1) (y1 : enF_ (isF B) T a1 = e1) (x2 : enF_ (isB B) T e1 = a2) (y2 : enF_ (isF B) T a2 = e2) : ∃ ν' : mm_M, (∀ k, k ≠ 0 → k ≠ 9 → k ≠ 10 → ν'.1 k = μ.1 k) ∧ (∀ q, q ≠ 14 → q ≠ 15 → q ≠ 18 → q ≠ 19 → q ≠ 20 → ν'.1 0 q = μ.1 0 q) ∧ (∀ j, j ≠ np → ν'.1 9 j = μ.1 9 j ∧ ν'.1 10 j = μ.1 10 j) ∧ (fR (badN B a1 e1 0 99) (badN B a2 e2 0 99) = 0 → ν'.1 0 15 = nI e2 ∧ ν'.1 0 20 = nI (np + 1) ∧ ν'.1 9 np = nI (vlN B a1 (min (e1 - a1) 3)) ∧ ν'.1 10 np = nI (vlN B a2 (min (e2 - a2) 3)) ∧ ν'.1 0 14 = μ.1 0 14) ∧ (fR (badN B a1 e1 0 99) (badN B a2 e2 0 99) ≠ 0 → ν'.1 0 14 = nI (fW (badN B a1 e1 0 99) a1 a2)) ∧ ∀ (d : Nat) (P : mm_O), mm_run shM (d + 4) 94 [.ref 0] μ P = P (some (.int (nI (fR (badN B a1 e1 0 99) (badN B a2 e2 0 99))))) ν' := by
  have l1 := en_b (c := isB B) he
  rw [x1] at l1
  have l2 := en_b (c := isF B) l1.2.1
  rw [y1] at l2
  generalize hμ1 : mm_set μ 0 (upd (μ.1 0) 20 (nI (np + 1))) = μ1
  have e0 : ∀ k, k ≠ 0 → μ1.1 k = μ.1 k := fun k hk => by rw [← hμ1, mm_set_ne _ _ hk]
  have eq : ∀ q, q ≠ 20 → μ1.1 0 q = μ.1 0 q := fun q hq => by rw [← hμ1, mm_set_same, upd_1, if_neg hq]
  have e20 : μ1.1 0 20 = nI (np + 1) := by rw [← hμ1, mm_set_same, upd_1, if_pos rfl]
  have h1 : TXM μ1 B T := h.f2 (e0 8 (by decide)) (eq 13 (by decide))
  obtain ⟨ν, i1, i2, i3, i4, i5, i6⟩ := s_Minto_9 h1 hn he (by rw [eq 15 (by decide)]; exact h15) (least := 0) (most := 99) x1 y1
  have h2 : TXM ν B T := h1.f2 (i1 8 (by decide) (by decide)) (i2 13 (by decide) (by decide) (by decide) (by decide))
  have pre : ∀ (d : Nat) (P : mm_O), mm_run shM (d + 4) 94 [.ref 0] μ P = mm_at shM (d + 3) 94 [] P 28 [.ref 0, .int (nI np), .int (nI (badN B a1 e1 0 99))] [] ν := fun d P => by
    rw [in_X7_takePlace]
    simp only [qX7_takePlace_0, qX7_takePlace_1, qX7_takePlace_4, qX7_takePlace_5, qX7_takePlace_6, qX7_takePlace_7, qX7_takePlace_10, qX7_takePlace_11, qX7_takePlace_12, qX7_takePlace_15, qX7_takePlace_16, qX7_takePlace_17, qX7_takePlace_20, qX7_takePlace_21, qX7_takePlace_22, qX7_takePlace_24, qX7_takePlace_27, qX7_takePlace_29, qX7_takePlace_32, qX7_takePlace_33, qX7_takePlace_36, qX7_takePlace_37, qX7_takePlace_38, qX7_takePlace_41, qX7_takePlace_42, qX7_takePlace_43, qX7_takePlace_45, qX7_takePlace_48, h20, nI_1, mm_sti_set, hμ1, i6, Option.toList, List.cons_append, List.nil_append]
  by_cases hb : badN B a1 e1 0 99 = 0
  · obtain ⟨c1, c2, c3⟩ := i4 hb
    obtain ⟨ν', j1, j2, j3, j4, j5, j6⟩ := s_Minto_10 h2 hn l2.2.1 c1 (least := 0) (most := 99) x2 y2
    have hf : fR (badN B a1 e1 0 99) (badN B a2 e2 0 99) = badN B a2 e2 0 99 := if_pos hb
    have hg : fW (badN B a1 e1 0 99) a1 a2 = a2 := if_pos hb
    rw [hf, hg]
    refine ⟨ν', fun k a b c => by rw [j1 k a c, i1 k a b]; exact e0 k a, fun q a b c d e => by rw [j2 q a b c d, i2 q a b c d]; exact eq q e, fun j hj => ⟨by rw [j1 9 (by decide) (by decide), i3 j hj, e0 9 (by decide)], by rw [j3 j hj, i1 10 (by decide) (by decide), e0 10 (by decide)]⟩, fun hz => ?_, j5, fun d P => ?_⟩
    · obtain ⟨d1, d2, d3⟩ := j4 hz
      exact ⟨d1, by rw [j2 20 (by decide) (by decide) (by decide) (by decide), i2 20 (by decide) (by decide) (by decide) (by decide)]; exact e20, by rw [j1 9 (by decide) (by decide)]; exact c2, d2, by rw [d3, c3]; exact eq 14 (by decide)⟩
    · rw [pre, hb]
      simp only [qX7_takePlace_0, qX7_takePlace_1, qX7_takePlace_4, qX7_takePlace_5, qX7_takePlace_6, qX7_takePlace_7, qX7_takePlace_10, qX7_takePlace_11, qX7_takePlace_12, qX7_takePlace_15, qX7_takePlace_16, qX7_takePlace_17, qX7_takePlace_20, qX7_takePlace_21, qX7_takePlace_22, qX7_takePlace_24, qX7_takePlace_27, qX7_takePlace_28, qX7_takePlace_29, qX7_takePlace_32, qX7_takePlace_33, qX7_takePlace_36, qX7_takePlace_37, qX7_takePlace_38, qX7_takePlace_41, qX7_takePlace_42, qX7_takePlace_43, qX7_takePlace_45, qX7_takePlace_48, show nI 0 ≤ 0 by decide, if_true, j6, Option.toList, List.cons_append, List.nil_append]
  · have hf : fR (badN B a1 e1 0 99) (badN B a2 e2 0 99) = badN B a1 e1 0 99 := if_neg hb
    have hg : fW (badN B a1 e1 0 99) a1 a2 = a1 := if_neg hb
    rw [hf, hg]
    have hb3 := badN_le (B := B) (a := a1) (e := e1) (least := 0) (most := 99)
    have hpos : ¬ nI (badN B a1 e1 0 99) ≤ 0 := show ¬ nI _ ≤ nI 0 from nI_ge (by omega) (by omega)
    refine ⟨ν, fun k a b c => by rw [i1 k a b]; exact e0 k a, fun q a b c d e => by rw [i2 q a b c d]; exact eq q e, fun j hj => ⟨by rw [i3 j hj, e0 9 (by decide)], by rw [i1 10 (by decide) (by decide), e0 10 (by decide)]⟩, fun hz => absurd hz hb, fun _ => i5 hb, fun d P => ?_⟩
    rw [pre]
    simp only [qX7_takePlace_0, qX7_takePlace_1, qX7_takePlace_4, qX7_takePlace_5, qX7_takePlace_6, qX7_takePlace_7, qX7_takePlace_10, qX7_takePlace_11, qX7_takePlace_12, qX7_takePlace_15, qX7_takePlace_16, qX7_takePlace_17, qX7_takePlace_20, qX7_takePlace_21, qX7_takePlace_22, qX7_takePlace_24, qX7_takePlace_27, qX7_takePlace_28, qX7_takePlace_29, qX7_takePlace_32, qX7_takePlace_33, qX7_takePlace_36, qX7_takePlace_37, qX7_takePlace_38, qX7_takePlace_41, qX7_takePlace_42, qX7_takePlace_43, qX7_takePlace_45, qX7_takePlace_48, hpos, if_false]
end MC
