/-! THE TEXT: words -/
section WD
variable {σ μ : mm_M} {B : Nat → Nat} {T : Nat}
theorem s_letters_loop {a1 : Value} {d : Nat} {P : mm_O} : ∀ (j p : Nat) (σ : mm_M), j + p = T → TXC σ B T → σ.1 1 4 = nI p → mm_at shC (d + 2) 4 [] P 5 [.ref 1, a1] [] σ = mm_at shC (d + 2) 4 [] P 40 [.ref 1, a1] [] (mm_set σ 1 (upd (σ.1 1) 4 (nI (enF_ (isL B) T p)))) := by
  intro j
  induction j with
  | zero =>
    intro p σ hp h h4
    have hp : p = T := by omega
    subst hp
    rw [en_end (Nat.le_refl _), ← h4, upd_self, mm_set_self, qX1_readClause_5]
    simp only [qX1_readClause_0, qX1_readClause_1, qX1_readClause_4, qX1_readClause_6, qX1_readClause_9, qX1_readClause_10, qX1_readClause_13, qX1_readClause_16, qX1_readClause_17, qX1_readClause_19, qX1_readClause_21, qX1_readClause_24, qX1_readClause_27, qX1_readClause_28, qX1_readClause_29, qX1_readClause_32, qX1_readClause_33, qX1_readClause_34, qX1_readClause_37, qX1_readClause_41, qX1_readClause_42, qX1_readClause_44, qX1_readClause_47, qX1_readClause_50, qX1_readClause_51, qX1_readClause_52, qX1_readClause_55, qX1_readClause_58, qX1_readClause_59, qX1_readClause_60, qX1_readClause_62, qX1_readClause_65, qX1_readClause_68, qX1_readClause_69, qX1_readClause_70, qX1_readClause_73, qX1_readClause_76, qX1_readClause_77, qX1_readClause_78, qX1_readClause_80, qX1_readClause_83, qX1_readClause_86, qX1_readClause_87, qX1_readClause_88, qX1_readClause_91, qX1_readClause_94, qX1_readClause_95, qX1_readClause_96, qX1_readClause_97, qX1_readClause_100, h4, h.2.1, show nI p ≤ nI p from Int32.le_refl _, if_true]
  | succ j ih =>
    intro p σ hp h h4
    have hlt : p < T := by omega
    have h400 := h.1
    have q1 : ¬ nI T ≤ nI p := nI_ge hlt (by omega)
    have bt : ∀ (d : Nat) (P : mm_O), mm_run shC (d + 2) 13 [.ref 1, .int 97, .int 122] σ P = P (some (.int (if 97 ≤ B p ∧ B p ≤ 122 then 1 else 0))) σ := fun d P => s_isBetween h hlt h4 (a := 97) (b := 122) (by decide) (by decide) d P
    rw [qX1_readClause_5]
    by_cases hb : 97 ≤ B p ∧ B p ≤ 122
    · rw [en_go hlt (decide_eq_true hb)]
      simp only [qX1_readClause_0, qX1_readClause_1, qX1_readClause_4, qX1_readClause_6, qX1_readClause_9, qX1_readClause_10, qX1_readClause_13, qX1_readClause_16, qX1_readClause_17, qX1_readClause_19, qX1_readClause_21, qX1_readClause_24, qX1_readClause_27, qX1_readClause_28, qX1_readClause_29, qX1_readClause_32, qX1_readClause_33, qX1_readClause_34, qX1_readClause_37, qX1_readClause_41, qX1_readClause_42, qX1_readClause_44, qX1_readClause_47, qX1_readClause_50, qX1_readClause_51, qX1_readClause_52, qX1_readClause_55, qX1_readClause_58, qX1_readClause_59, qX1_readClause_60, qX1_readClause_62, qX1_readClause_65, qX1_readClause_68, qX1_readClause_69, qX1_readClause_70, qX1_readClause_73, qX1_readClause_76, qX1_readClause_77, qX1_readClause_78, qX1_readClause_80, qX1_readClause_83, qX1_readClause_86, qX1_readClause_87, qX1_readClause_88, qX1_readClause_91, qX1_readClause_94, qX1_readClause_95, qX1_readClause_96, qX1_readClause_97, qX1_readClause_100, h4, h.2.1, q1, if_false, bt, hb, and_self, if_true, show ¬ (1 : Int32) = 0 by decide, nI_1, mm_sti_set, Option.toList, List.cons_append, List.nil_append]
      rw [ih (p + 1) _ (by omega) (h.pos _) (by rw [mm_set_same, upd_1, if_pos rfl]), mm_set_set, mm_set_same, upd_upd]
    · rw [en_no (decide_eq_false hb), ← h4, upd_self, mm_set_self]
      simp only [qX1_readClause_0, qX1_readClause_1, qX1_readClause_4, qX1_readClause_6, qX1_readClause_9, qX1_readClause_10, qX1_readClause_13, qX1_readClause_16, qX1_readClause_17, qX1_readClause_19, qX1_readClause_21, qX1_readClause_24, qX1_readClause_27, qX1_readClause_28, qX1_readClause_29, qX1_readClause_32, qX1_readClause_33, qX1_readClause_34, qX1_readClause_37, qX1_readClause_41, qX1_readClause_42, qX1_readClause_44, qX1_readClause_47, qX1_readClause_50, qX1_readClause_51, qX1_readClause_52, qX1_readClause_55, qX1_readClause_58, qX1_readClause_59, qX1_readClause_60, qX1_readClause_62, qX1_readClause_65, qX1_readClause_68, qX1_readClause_69, qX1_readClause_70, qX1_readClause_73, qX1_readClause_76, qX1_readClause_77, qX1_readClause_78, qX1_readClause_80, qX1_readClause_83, qX1_readClause_86, qX1_readClause_87, qX1_readClause_88, qX1_readClause_91, qX1_readClause_94, qX1_readClause_95, qX1_readClause_96, qX1_readClause_97, qX1_readClause_100, h4, h.2.1, q1, if_false, bt, hb, if_true, Option.toList, List.cons_append, List.nil_append]
theorem s_isWord_place_loop (h : TXC σ B T) {a : Nat} (ha : a + 5 ≤ T) : ∀ (j k : Nat), j + k = 5 → ∃ b : Bool, (b = true ↔ ∀ i, k ≤ i → i < 5 → B (a + i) = ([112, 108, 97, 99, 101] : List Nat).getD i 0) ∧ ∀ (d : Nat) (P : mm_O), mm_at shC (d + 1) 12 [] P 17 [.ref 1, .int (nI a), .ref 1000, .int (nI k)] [] σ = P (some (.int (bI b))) σ := by
  have h400 := h.1
  intro j
  induction j with
  | zero =>
    intro k hk
    have hk : k = 5 := by omega
    subst hk
    refine ⟨true, ⟨fun _ i h1 h2 => by omega, fun _ => rfl⟩, fun d P => ?_⟩
    rw [qX1_isWord_17]
    simp only [qX1_isWord_0, qX1_isWord_1, qX1_isWord_4, qX1_isWord_5, qX1_isWord_6, qX1_isWord_7a, qX1_isWord_7b, qX1_isWord_7c, qX1_isWord_10, qX1_isWord_13, qX1_isWord_14, qX1_isWord_15, qX1_isWord_16, qX1_isWord_18, qX1_isWord_19a, qX1_isWord_19b, qX1_isWord_19c, qX1_isWord_22, qX1_isWord_25, qX1_isWord_26, qX1_isWord_27, qX1_isWord_28, qX1_isWord_29, qX1_isWord_32, qX1_isWord_33, qX1_isWord_34a, qX1_isWord_34b, qX1_isWord_34c, qX1_isWord_37, qX1_isWord_40, qX1_isWord_41, qX1_isWord_42, qX1_isWord_45, qX1_isWord_48, qX1_isWord_49, show (5 : Int32) ≤ nI 5 by decide, if_true]
    simp [bI]
  | succ j ih =>
    intro k hk
    have h1 : ¬ (5 : Int32) ≤ nI k := show ¬ nI 5 ≤ nI k from nI_ge (by omega) (by decide)
    have v1 : vp_in (nI k) 5 := vp_in_nI (by omega) (by decide)
    have v2 : (nI k).toNatClampNeg = k := nI_clamp (by omega)
    have hB := (h.2.2 (a + k) (by omega)).1
    have hcs : ∀ k, k < 5 → ([112, 108, 97, 99, 101] : List Int32).getD k 0 = nI (([112, 108, 97, 99, 101] : List Nat).getD k 0) ∧ ([112, 108, 97, 99, 101] : List Nat).getD k 0 < 128 := by decide
    obtain ⟨c1, c2⟩ := hcs k (by omega)
    have e := sb_eq (b := B (a + k)) hB c2
    obtain ⟨b, i1, i2⟩ := ih (k + 1) (by omega)
    by_cases hb : B (a + k) = ([112, 108, 97, 99, 101] : List Nat).getD k 0
    · refine ⟨b, i1.trans ⟨fun q i h1 h2 => ?_, fun q i h1 h2 => q i (by omega) h2⟩, fun d P => ?_⟩
      · by_cases hi : i = k
        · rw [hi]; exact hb
        · exact q i (by omega) h2
      · rw [← i2 d P, qX1_isWord_17]
        simp only [qX1_isWord_0, qX1_isWord_1, qX1_isWord_4, qX1_isWord_5, qX1_isWord_6, qX1_isWord_7a, qX1_isWord_7b, qX1_isWord_7c, qX1_isWord_10, qX1_isWord_13, qX1_isWord_14, qX1_isWord_15, qX1_isWord_16, qX1_isWord_18, qX1_isWord_19a, qX1_isWord_19b, qX1_isWord_19c, qX1_isWord_22, qX1_isWord_25, qX1_isWord_26, qX1_isWord_27, qX1_isWord_28, qX1_isWord_29, qX1_isWord_32, qX1_isWord_33, qX1_isWord_34a, qX1_isWord_34b, qX1_isWord_34c, qX1_isWord_37, qX1_isWord_40, qX1_isWord_41, qX1_isWord_42, qX1_isWord_45, qX1_isWord_48, qX1_isWord_49, h1, if_false, nI_add, s_byteAt h (show a + k < T by omega), v1, v2, true_and, c1, e.mpr hb, if_true, nI_1, Option.toList, List.cons_append, List.nil_append]
    · refine ⟨false, ⟨fun q => absurd q (by decide), fun q => absurd (q k (Nat.le_refl _) (by omega)) hb⟩, fun d P => ?_⟩
      rw [qX1_isWord_17]
      have e' : ¬ sbI (B (a + k)) = nI (([112, 108, 97, 99, 101] : List Nat).getD k 0) := fun q => hb (e.mp q)
      simp only [qX1_isWord_0, qX1_isWord_1, qX1_isWord_4, qX1_isWord_5, qX1_isWord_6, qX1_isWord_7a, qX1_isWord_7b, qX1_isWord_7c, qX1_isWord_10, qX1_isWord_13, qX1_isWord_14, qX1_isWord_15, qX1_isWord_16, qX1_isWord_18, qX1_isWord_19a, qX1_isWord_19b, qX1_isWord_19c, qX1_isWord_22, qX1_isWord_25, qX1_isWord_26, qX1_isWord_27, qX1_isWord_28, qX1_isWord_29, qX1_isWord_32, qX1_isWord_33, qX1_isWord_34a, qX1_isWord_34b, qX1_isWord_34c, qX1_isWord_37, qX1_isWord_40, qX1_isWord_41, qX1_isWord_42, qX1_isWord_45, qX1_isWord_48, qX1_isWord_49, h1, if_false, nI_add, s_byteAt h (show a + k < T by omega), v1, v2, true_and, c1, e', Option.toList, List.cons_append, List.nil_append]
      simp [bI]
theorem s_isWord_place (h : TXC σ B T) {a e : Nat} (ha : a ≤ e) (he : e ≤ T) (h4 : σ.1 1 4 = nI e) : ∃ b : Bool, (b = true ↔ (e - a = 5 ∧ ∀ i, i < 5 → B (a + i) = ([112, 108, 97, 99, 101] : List Nat).getD i 0)) ∧ ∀ (d : Nat) (P : mm_O), mm_run shC (d + 2) 12 [.ref 1, .int (nI a), .ref 1000] σ P = P (some (.int (bI b))) σ := by
  have h400 := h.1
  by_cases hl : e - a = 5
  · obtain ⟨b, i1, i2⟩ := s_isWord_place_loop h (a := a) (by omega) 5 0 (by omega)
    refine ⟨b, i1.trans ⟨fun q => ⟨hl, fun i hi => q i (Nat.zero_le _) hi⟩, fun q i _ hi => q.2 i hi⟩, fun d P => ?_⟩
    rw [← i2 d P, in_X1_isWord]
    have e1 : nI e - nI a = 5 := by rw [nI_sub ha, hl]; rfl
    simp only [qX1_isWord_0, qX1_isWord_1, qX1_isWord_4, qX1_isWord_5, qX1_isWord_6, qX1_isWord_7a, qX1_isWord_7b, qX1_isWord_7c, qX1_isWord_10, qX1_isWord_13, qX1_isWord_14, qX1_isWord_15, qX1_isWord_16, qX1_isWord_18, qX1_isWord_19a, qX1_isWord_19b, qX1_isWord_19c, qX1_isWord_22, qX1_isWord_25, qX1_isWord_26, qX1_isWord_27, qX1_isWord_28, qX1_isWord_29, qX1_isWord_32, qX1_isWord_33, qX1_isWord_34a, qX1_isWord_34b, qX1_isWord_34c, qX1_isWord_37, qX1_isWord_40, qX1_isWord_41, qX1_isWord_42, qX1_isWord_45, qX1_isWord_48, qX1_isWord_49, h4, e1, if_true]
    rfl
  · refine ⟨false, ⟨fun q => absurd q (by decide), fun q => absurd q.1 hl⟩, fun d P => ?_⟩
    rw [in_X1_isWord]
    have e1 : ¬ nI e - nI a = 5 := fun q => hl ((nI_eq2 (by omega) (by decide)).mp (show nI (e - a) = nI 5 by rw [← nI_sub ha]; exact q))
    simp only [qX1_isWord_0, qX1_isWord_1, qX1_isWord_4, qX1_isWord_5, qX1_isWord_6, qX1_isWord_7a, qX1_isWord_7b, qX1_isWord_7c, qX1_isWord_10, qX1_isWord_13, qX1_isWord_14, qX1_isWord_15, qX1_isWord_16, qX1_isWord_18, qX1_isWord_19a, qX1_isWord_19b, qX1_isWord_19c, qX1_isWord_22, qX1_isWord_25, qX1_isWord_26, qX1_isWord_27, qX1_isWord_28, qX1_isWord_29, qX1_isWord_32, qX1_isWord_33, qX1_isWord_34a, qX1_isWord_34b, qX1_isWord_34c, qX1_isWord_37, qX1_isWord_40, qX1_isWord_41, qX1_isWord_42, qX1_isWord_45, qX1_isWord_48, qX1_isWord_49, h4, e1, if_false]
    simp [bI]
theorem s_isWord_letter_loop (h : TXC σ B T) {a : Nat} (ha : a + 6 ≤ T) : ∀ (j k : Nat), j + k = 6 → ∃ b : Bool, (b = true ↔ ∀ i, k ≤ i → i < 6 → B (a + i) = ([108, 101, 116, 116, 101, 114] : List Nat).getD i 0) ∧ ∀ (d : Nat) (P : mm_O), mm_at shC (d + 1) 12 [] P 17 [.ref 1, .int (nI a), .ref 1001, .int (nI k)] [] σ = P (some (.int (bI b))) σ := by
  have h400 := h.1
  intro j
  induction j with
  | zero =>
    intro k hk
    have hk : k = 6 := by omega
    subst hk
    refine ⟨true, ⟨fun _ i h1 h2 => by omega, fun _ => rfl⟩, fun d P => ?_⟩
    rw [qX1_isWord_17]
    simp only [qX1_isWord_0, qX1_isWord_1, qX1_isWord_4, qX1_isWord_5, qX1_isWord_6, qX1_isWord_7a, qX1_isWord_7b, qX1_isWord_7c, qX1_isWord_10, qX1_isWord_13, qX1_isWord_14, qX1_isWord_15, qX1_isWord_16, qX1_isWord_18, qX1_isWord_19a, qX1_isWord_19b, qX1_isWord_19c, qX1_isWord_22, qX1_isWord_25, qX1_isWord_26, qX1_isWord_27, qX1_isWord_28, qX1_isWord_29, qX1_isWord_32, qX1_isWord_33, qX1_isWord_34a, qX1_isWord_34b, qX1_isWord_34c, qX1_isWord_37, qX1_isWord_40, qX1_isWord_41, qX1_isWord_42, qX1_isWord_45, qX1_isWord_48, qX1_isWord_49, show (6 : Int32) ≤ nI 6 by decide, if_true]
    simp [bI]
  | succ j ih =>
    intro k hk
    have h1 : ¬ (6 : Int32) ≤ nI k := show ¬ nI 6 ≤ nI k from nI_ge (by omega) (by decide)
    have v1 : vp_in (nI k) 6 := vp_in_nI (by omega) (by decide)
    have v2 : (nI k).toNatClampNeg = k := nI_clamp (by omega)
    have hB := (h.2.2 (a + k) (by omega)).1
    have hcs : ∀ k, k < 6 → ([108, 101, 116, 116, 101, 114] : List Int32).getD k 0 = nI (([108, 101, 116, 116, 101, 114] : List Nat).getD k 0) ∧ ([108, 101, 116, 116, 101, 114] : List Nat).getD k 0 < 128 := by decide
    obtain ⟨c1, c2⟩ := hcs k (by omega)
    have e := sb_eq (b := B (a + k)) hB c2
    obtain ⟨b, i1, i2⟩ := ih (k + 1) (by omega)
    by_cases hb : B (a + k) = ([108, 101, 116, 116, 101, 114] : List Nat).getD k 0
    · refine ⟨b, i1.trans ⟨fun q i h1 h2 => ?_, fun q i h1 h2 => q i (by omega) h2⟩, fun d P => ?_⟩
      · by_cases hi : i = k
        · rw [hi]; exact hb
        · exact q i (by omega) h2
      · rw [← i2 d P, qX1_isWord_17]
        simp only [qX1_isWord_0, qX1_isWord_1, qX1_isWord_4, qX1_isWord_5, qX1_isWord_6, qX1_isWord_7a, qX1_isWord_7b, qX1_isWord_7c, qX1_isWord_10, qX1_isWord_13, qX1_isWord_14, qX1_isWord_15, qX1_isWord_16, qX1_isWord_18, qX1_isWord_19a, qX1_isWord_19b, qX1_isWord_19c, qX1_isWord_22, qX1_isWord_25, qX1_isWord_26, qX1_isWord_27, qX1_isWord_28, qX1_isWord_29, qX1_isWord_32, qX1_isWord_33, qX1_isWord_34a, qX1_isWord_34b, qX1_isWord_34c, qX1_isWord_37, qX1_isWord_40, qX1_isWord_41, qX1_isWord_42, qX1_isWord_45, qX1_isWord_48, qX1_isWord_49, h1, if_false, nI_add, s_byteAt h (show a + k < T by omega), v1, v2, true_and, c1, e.mpr hb, if_true, nI_1, Option.toList, List.cons_append, List.nil_append]
    · refine ⟨false, ⟨fun q => absurd q (by decide), fun q => absurd (q k (Nat.le_refl _) (by omega)) hb⟩, fun d P => ?_⟩
      rw [qX1_isWord_17]
      have e' : ¬ sbI (B (a + k)) = nI (([108, 101, 116, 116, 101, 114] : List Nat).getD k 0) := fun q => hb (e.mp q)
      simp only [qX1_isWord_0, qX1_isWord_1, qX1_isWord_4, qX1_isWord_5, qX1_isWord_6, qX1_isWord_7a, qX1_isWord_7b, qX1_isWord_7c, qX1_isWord_10, qX1_isWord_13, qX1_isWord_14, qX1_isWord_15, qX1_isWord_16, qX1_isWord_18, qX1_isWord_19a, qX1_isWord_19b, qX1_isWord_19c, qX1_isWord_22, qX1_isWord_25, qX1_isWord_26, qX1_isWord_27, qX1_isWord_28, qX1_isWord_29, qX1_isWord_32, qX1_isWord_33, qX1_isWord_34a, qX1_isWord_34b, qX1_isWord_34c, qX1_isWord_37, qX1_isWord_40, qX1_isWord_41, qX1_isWord_42, qX1_isWord_45, qX1_isWord_48, qX1_isWord_49, h1, if_false, nI_add, s_byteAt h (show a + k < T by omega), v1, v2, true_and, c1, e', Option.toList, List.cons_append, List.nil_append]
      simp [bI]
theorem s_isWord_letter (h : TXC σ B T) {a e : Nat} (ha : a ≤ e) (he : e ≤ T) (h4 : σ.1 1 4 = nI e) : ∃ b : Bool, (b = true ↔ (e - a = 6 ∧ ∀ i, i < 6 → B (a + i) = ([108, 101, 116, 116, 101, 114] : List Nat).getD i 0)) ∧ ∀ (d : Nat) (P : mm_O), mm_run shC (d + 2) 12 [.ref 1, .int (nI a), .ref 1001] σ P = P (some (.int (bI b))) σ := by
  have h400 := h.1
  by_cases hl : e - a = 6
  · obtain ⟨b, i1, i2⟩ := s_isWord_letter_loop h (a := a) (by omega) 6 0 (by omega)
    refine ⟨b, i1.trans ⟨fun q => ⟨hl, fun i hi => q i (Nat.zero_le _) hi⟩, fun q i _ hi => q.2 i hi⟩, fun d P => ?_⟩
    rw [← i2 d P, in_X1_isWord]
    have e1 : nI e - nI a = 6 := by rw [nI_sub ha, hl]; rfl
    simp only [qX1_isWord_0, qX1_isWord_1, qX1_isWord_4, qX1_isWord_5, qX1_isWord_6, qX1_isWord_7a, qX1_isWord_7b, qX1_isWord_7c, qX1_isWord_10, qX1_isWord_13, qX1_isWord_14, qX1_isWord_15, qX1_isWord_16, qX1_isWord_18, qX1_isWord_19a, qX1_isWord_19b, qX1_isWord_19c, qX1_isWord_22, qX1_isWord_25, qX1_isWord_26, qX1_isWord_27, qX1_isWord_28, qX1_isWord_29, qX1_isWord_32, qX1_isWord_33, qX1_isWord_34a, qX1_isWord_34b, qX1_isWord_34c, qX1_isWord_37, qX1_isWord_40, qX1_isWord_41, qX1_isWord_42, qX1_isWord_45, qX1_isWord_48, qX1_isWord_49, h4, e1, if_true]
    rfl
  · refine ⟨false, ⟨fun q => absurd q (by decide), fun q => absurd q.1 hl⟩, fun d P => ?_⟩
    rw [in_X1_isWord]
    have e1 : ¬ nI e - nI a = 6 := fun q => hl ((nI_eq2 (by omega) (by decide)).mp (show nI (e - a) = nI 6 by rw [← nI_sub ha]; exact q))
    simp only [qX1_isWord_0, qX1_isWord_1, qX1_isWord_4, qX1_isWord_5, qX1_isWord_6, qX1_isWord_7a, qX1_isWord_7b, qX1_isWord_7c, qX1_isWord_10, qX1_isWord_13, qX1_isWord_14, qX1_isWord_15, qX1_isWord_16, qX1_isWord_18, qX1_isWord_19a, qX1_isWord_19b, qX1_isWord_19c, qX1_isWord_22, qX1_isWord_25, qX1_isWord_26, qX1_isWord_27, qX1_isWord_28, qX1_isWord_29, qX1_isWord_32, qX1_isWord_33, qX1_isWord_34a, qX1_isWord_34b, qX1_isWord_34c, qX1_isWord_37, qX1_isWord_40, qX1_isWord_41, qX1_isWord_42, qX1_isWord_45, qX1_isWord_48, qX1_isWord_49, h4, e1, if_false]
    simp [bI]
theorem s_isWord_stone_loop (h : TXC σ B T) {a : Nat} (ha : a + 5 ≤ T) : ∀ (j k : Nat), j + k = 5 → ∃ b : Bool, (b = true ↔ ∀ i, k ≤ i → i < 5 → B (a + i) = ([115, 116, 111, 110, 101] : List Nat).getD i 0) ∧ ∀ (d : Nat) (P : mm_O), mm_at shC (d + 1) 12 [] P 17 [.ref 1, .int (nI a), .ref 1002, .int (nI k)] [] σ = P (some (.int (bI b))) σ := by
  have h400 := h.1
  intro j
  induction j with
  | zero =>
    intro k hk
    have hk : k = 5 := by omega
    subst hk
    refine ⟨true, ⟨fun _ i h1 h2 => by omega, fun _ => rfl⟩, fun d P => ?_⟩
    rw [qX1_isWord_17]
    simp only [qX1_isWord_0, qX1_isWord_1, qX1_isWord_4, qX1_isWord_5, qX1_isWord_6, qX1_isWord_7a, qX1_isWord_7b, qX1_isWord_7c, qX1_isWord_10, qX1_isWord_13, qX1_isWord_14, qX1_isWord_15, qX1_isWord_16, qX1_isWord_18, qX1_isWord_19a, qX1_isWord_19b, qX1_isWord_19c, qX1_isWord_22, qX1_isWord_25, qX1_isWord_26, qX1_isWord_27, qX1_isWord_28, qX1_isWord_29, qX1_isWord_32, qX1_isWord_33, qX1_isWord_34a, qX1_isWord_34b, qX1_isWord_34c, qX1_isWord_37, qX1_isWord_40, qX1_isWord_41, qX1_isWord_42, qX1_isWord_45, qX1_isWord_48, qX1_isWord_49, show (5 : Int32) ≤ nI 5 by decide, if_true]
    simp [bI]
  | succ j ih =>
    intro k hk
    have h1 : ¬ (5 : Int32) ≤ nI k := show ¬ nI 5 ≤ nI k from nI_ge (by omega) (by decide)
    have v1 : vp_in (nI k) 5 := vp_in_nI (by omega) (by decide)
    have v2 : (nI k).toNatClampNeg = k := nI_clamp (by omega)
    have hB := (h.2.2 (a + k) (by omega)).1
    have hcs : ∀ k, k < 5 → ([115, 116, 111, 110, 101] : List Int32).getD k 0 = nI (([115, 116, 111, 110, 101] : List Nat).getD k 0) ∧ ([115, 116, 111, 110, 101] : List Nat).getD k 0 < 128 := by decide
    obtain ⟨c1, c2⟩ := hcs k (by omega)
    have e := sb_eq (b := B (a + k)) hB c2
    obtain ⟨b, i1, i2⟩ := ih (k + 1) (by omega)
    by_cases hb : B (a + k) = ([115, 116, 111, 110, 101] : List Nat).getD k 0
    · refine ⟨b, i1.trans ⟨fun q i h1 h2 => ?_, fun q i h1 h2 => q i (by omega) h2⟩, fun d P => ?_⟩
      · by_cases hi : i = k
        · rw [hi]; exact hb
        · exact q i (by omega) h2
      · rw [← i2 d P, qX1_isWord_17]
        simp only [qX1_isWord_0, qX1_isWord_1, qX1_isWord_4, qX1_isWord_5, qX1_isWord_6, qX1_isWord_7a, qX1_isWord_7b, qX1_isWord_7c, qX1_isWord_10, qX1_isWord_13, qX1_isWord_14, qX1_isWord_15, qX1_isWord_16, qX1_isWord_18, qX1_isWord_19a, qX1_isWord_19b, qX1_isWord_19c, qX1_isWord_22, qX1_isWord_25, qX1_isWord_26, qX1_isWord_27, qX1_isWord_28, qX1_isWord_29, qX1_isWord_32, qX1_isWord_33, qX1_isWord_34a, qX1_isWord_34b, qX1_isWord_34c, qX1_isWord_37, qX1_isWord_40, qX1_isWord_41, qX1_isWord_42, qX1_isWord_45, qX1_isWord_48, qX1_isWord_49, h1, if_false, nI_add, s_byteAt h (show a + k < T by omega), v1, v2, true_and, c1, e.mpr hb, if_true, nI_1, Option.toList, List.cons_append, List.nil_append]
    · refine ⟨false, ⟨fun q => absurd q (by decide), fun q => absurd (q k (Nat.le_refl _) (by omega)) hb⟩, fun d P => ?_⟩
      rw [qX1_isWord_17]
      have e' : ¬ sbI (B (a + k)) = nI (([115, 116, 111, 110, 101] : List Nat).getD k 0) := fun q => hb (e.mp q)
      simp only [qX1_isWord_0, qX1_isWord_1, qX1_isWord_4, qX1_isWord_5, qX1_isWord_6, qX1_isWord_7a, qX1_isWord_7b, qX1_isWord_7c, qX1_isWord_10, qX1_isWord_13, qX1_isWord_14, qX1_isWord_15, qX1_isWord_16, qX1_isWord_18, qX1_isWord_19a, qX1_isWord_19b, qX1_isWord_19c, qX1_isWord_22, qX1_isWord_25, qX1_isWord_26, qX1_isWord_27, qX1_isWord_28, qX1_isWord_29, qX1_isWord_32, qX1_isWord_33, qX1_isWord_34a, qX1_isWord_34b, qX1_isWord_34c, qX1_isWord_37, qX1_isWord_40, qX1_isWord_41, qX1_isWord_42, qX1_isWord_45, qX1_isWord_48, qX1_isWord_49, h1, if_false, nI_add, s_byteAt h (show a + k < T by omega), v1, v2, true_and, c1, e', Option.toList, List.cons_append, List.nil_append]
      simp [bI]
theorem s_isWord_stone (h : TXC σ B T) {a e : Nat} (ha : a ≤ e) (he : e ≤ T) (h4 : σ.1 1 4 = nI e) : ∃ b : Bool, (b = true ↔ (e - a = 5 ∧ ∀ i, i < 5 → B (a + i) = ([115, 116, 111, 110, 101] : List Nat).getD i 0)) ∧ ∀ (d : Nat) (P : mm_O), mm_run shC (d + 2) 12 [.ref 1, .int (nI a), .ref 1002] σ P = P (some (.int (bI b))) σ := by
  have h400 := h.1
  by_cases hl : e - a = 5
  · obtain ⟨b, i1, i2⟩ := s_isWord_stone_loop h (a := a) (by omega) 5 0 (by omega)
    refine ⟨b, i1.trans ⟨fun q => ⟨hl, fun i hi => q i (Nat.zero_le _) hi⟩, fun q i _ hi => q.2 i hi⟩, fun d P => ?_⟩
    rw [← i2 d P, in_X1_isWord]
    have e1 : nI e - nI a = 5 := by rw [nI_sub ha, hl]; rfl
    simp only [qX1_isWord_0, qX1_isWord_1, qX1_isWord_4, qX1_isWord_5, qX1_isWord_6, qX1_isWord_7a, qX1_isWord_7b, qX1_isWord_7c, qX1_isWord_10, qX1_isWord_13, qX1_isWord_14, qX1_isWord_15, qX1_isWord_16, qX1_isWord_18, qX1_isWord_19a, qX1_isWord_19b, qX1_isWord_19c, qX1_isWord_22, qX1_isWord_25, qX1_isWord_26, qX1_isWord_27, qX1_isWord_28, qX1_isWord_29, qX1_isWord_32, qX1_isWord_33, qX1_isWord_34a, qX1_isWord_34b, qX1_isWord_34c, qX1_isWord_37, qX1_isWord_40, qX1_isWord_41, qX1_isWord_42, qX1_isWord_45, qX1_isWord_48, qX1_isWord_49, h4, e1, if_true]
    rfl
  · refine ⟨false, ⟨fun q => absurd q (by decide), fun q => absurd q.1 hl⟩, fun d P => ?_⟩
    rw [in_X1_isWord]
    have e1 : ¬ nI e - nI a = 5 := fun q => hl ((nI_eq2 (by omega) (by decide)).mp (show nI (e - a) = nI 5 by rw [← nI_sub ha]; exact q))
    simp only [qX1_isWord_0, qX1_isWord_1, qX1_isWord_4, qX1_isWord_5, qX1_isWord_6, qX1_isWord_7a, qX1_isWord_7b, qX1_isWord_7c, qX1_isWord_10, qX1_isWord_13, qX1_isWord_14, qX1_isWord_15, qX1_isWord_16, qX1_isWord_18, qX1_isWord_19a, qX1_isWord_19b, qX1_isWord_19c, qX1_isWord_22, qX1_isWord_25, qX1_isWord_26, qX1_isWord_27, qX1_isWord_28, qX1_isWord_29, qX1_isWord_32, qX1_isWord_33, qX1_isWord_34a, qX1_isWord_34b, qX1_isWord_34c, qX1_isWord_37, qX1_isWord_40, qX1_isWord_41, qX1_isWord_42, qX1_isWord_45, qX1_isWord_48, qX1_isWord_49, h4, e1, if_false]
    simp [bI]
end WD
def sdN (B : Nat → Nat) (a : Nat) : Nat → Nat
  | 0 => 0
  | k + 1 => if 1000000000000 < sdN B a k then 2000000000000 else 27 * sdN B a k + B (a + k) - 96
theorem sd_peel {B : Nat → Nat} {a k N x : Nat} (hx : 1 ≤ x ∧ x ≤ 26) (hN : 27 * N + x < 1000000000000) (hB : ∀ i, i < k → 97 ≤ B (a + i) ∧ B (a + i) ≤ 122) : sdN B a k = 27 * N + x ↔ ∃ k', k = k' + 1 ∧ sdN B a k' = N ∧ B (a + k') = 96 + x := by
  cases k with
  | zero =>
    constructor
    · intro h
      have h : 0 = 27 * N + x := h
      omega
    · rintro ⟨k', h, -⟩
      omega
  | succ k =>
    have hb := hB k (by omega)
    constructor
    · intro h
      unfold sdN at h
      refine ⟨k, rfl, ?_⟩
      by_cases hc : 1000000000000 < sdN B a k
      · rw [if_pos hc] at h; omega
      · rw [if_neg hc] at h; omega
    · rintro ⟨k', h, e1, e2⟩
      have : k' = k := by omega
      subst this
      unfold sdN
      rw [e1, if_neg (by omega)]
      omega
theorem sd_zero {B : Nat → Nat} {a k : Nat} (hB : ∀ i, i < k → 97 ≤ B (a + i) ∧ B (a + i) ≤ 122) : sdN B a k = 0 ↔ k = 0 := by
  cases k with
  | zero => exact ⟨fun _ => rfl, fun _ => rfl⟩
  | succ k =>
    have hb := hB k (by omega)
    refine ⟨fun h => ?_, fun h => by omega⟩
    unfold sdN at h
    by_cases hc : 1000000000000 < sdN B a k
    · rw [if_pos hc] at h; omega
    · rw [if_neg hc] at h; omega
theorem sd_place {B : Nat → Nat} {a k : Nat} (hB : ∀ i, i < k → 97 ≤ B (a + i) ∧ B (a + i) ≤ 122) : sdN B a k = 8740067 ↔ (k = 5 ∧ ∀ i, i < 5 → B (a + i) = ([112, 108, 97, 99, 101] : List Nat).getD i 0) := by
  constructor
  · intro h
    obtain ⟨k4, e4, h4, b4⟩ := (sd_peel (N := 323706) (x := 5) (by decide) (by decide) (fun i hi => hB i (by omega))).mp h
    obtain ⟨k3, e3, h3, b3⟩ := (sd_peel (N := 11989) (x := 3) (by decide) (by decide) (fun i hi => hB i (by omega))).mp h4
    obtain ⟨k2, e2, h2, b2⟩ := (sd_peel (N := 444) (x := 1) (by decide) (by decide) (fun i hi => hB i (by omega))).mp h3
    obtain ⟨k1, e1, h1, b1⟩ := (sd_peel (N := 16) (x := 12) (by decide) (by decide) (fun i hi => hB i (by omega))).mp h2
    obtain ⟨k0, e0, h0, b0⟩ := (sd_peel (N := 0) (x := 16) (by decide) (by decide) (fun i hi => hB i (by omega))).mp h1
    have z := (sd_zero (fun i hi => hB i (by omega))).mp h0
    refine ⟨by omega, fun i hi => ?_⟩
    have : i = 0 ∨ i = 1 ∨ i = 2 ∨ i = 3 ∨ i = 4 := by omega
    rcases this with q | q | q | q | q
    · rw [q, show a + 0 = a + k0 by omega, b0]; rfl
    · rw [q, show a + 1 = a + k1 by omega, b1]; rfl
    · rw [q, show a + 2 = a + k2 by omega, b2]; rfl
    · rw [q, show a + 3 = a + k3 by omega, b3]; rfl
    · rw [q, show a + 4 = a + k4 by omega, b4]; rfl
  · rintro ⟨hk, hw⟩
    subst hk
    have s0 : sdN B a 0 = 0 := rfl
    have s1 : sdN B a 1 = 16 := (sd_peel (N := 0) (x := 16) (by decide) (by decide) (fun i hi => hB i (by omega))).mpr ⟨0, rfl, s0, by rw [hw 0 (by decide)]; rfl⟩
    have s2 : sdN B a 2 = 444 := (sd_peel (N := 16) (x := 12) (by decide) (by decide) (fun i hi => hB i (by omega))).mpr ⟨1, rfl, s1, by rw [hw 1 (by decide)]; rfl⟩
    have s3 : sdN B a 3 = 11989 := (sd_peel (N := 444) (x := 1) (by decide) (by decide) (fun i hi => hB i (by omega))).mpr ⟨2, rfl, s2, by rw [hw 2 (by decide)]; rfl⟩
    have s4 : sdN B a 4 = 323706 := (sd_peel (N := 11989) (x := 3) (by decide) (by decide) (fun i hi => hB i (by omega))).mpr ⟨3, rfl, s3, by rw [hw 3 (by decide)]; rfl⟩
    have s5 : sdN B a 5 = 8740067 := (sd_peel (N := 323706) (x := 5) (by decide) (by decide) (fun i hi => hB i (by omega))).mpr ⟨4, rfl, s4, by rw [hw 4 (by decide)]; rfl⟩
    exact s5

theorem sd_letter {B : Nat → Nat} {a k : Nat} (hB : ∀ i, i < k → 97 ≤ B (a + i) ∧ B (a + i) ≤ 122) : sdN B a k = 175252482 ↔ (k = 6 ∧ ∀ i, i < 6 → B (a + i) = ([108, 101, 116, 116, 101, 114] : List Nat).getD i 0) := by
  constructor
  · intro h
    obtain ⟨k5, e5, h5, b5⟩ := (sd_peel (N := 6490832) (x := 18) (by decide) (by decide) (fun i hi => hB i (by omega))).mp h
    obtain ⟨k4, e4, h4, b4⟩ := (sd_peel (N := 240401) (x := 5) (by decide) (by decide) (fun i hi => hB i (by omega))).mp h5
    obtain ⟨k3, e3, h3, b3⟩ := (sd_peel (N := 8903) (x := 20) (by decide) (by decide) (fun i hi => hB i (by omega))).mp h4
    obtain ⟨k2, e2, h2, b2⟩ := (sd_peel (N := 329) (x := 20) (by decide) (by decide) (fun i hi => hB i (by omega))).mp h3
    obtain ⟨k1, e1, h1, b1⟩ := (sd_peel (N := 12) (x := 5) (by decide) (by decide) (fun i hi => hB i (by omega))).mp h2
    obtain ⟨k0, e0, h0, b0⟩ := (sd_peel (N := 0) (x := 12) (by decide) (by decide) (fun i hi => hB i (by omega))).mp h1
    have z := (sd_zero (fun i hi => hB i (by omega))).mp h0
    refine ⟨by omega, fun i hi => ?_⟩
    have : i = 0 ∨ i = 1 ∨ i = 2 ∨ i = 3 ∨ i = 4 ∨ i = 5 := by omega
    rcases this with q | q | q | q | q | q
    · rw [q, show a + 0 = a + k0 by omega, b0]; rfl
    · rw [q, show a + 1 = a + k1 by omega, b1]; rfl
    · rw [q, show a + 2 = a + k2 by omega, b2]; rfl
    · rw [q, show a + 3 = a + k3 by omega, b3]; rfl
    · rw [q, show a + 4 = a + k4 by omega, b4]; rfl
    · rw [q, show a + 5 = a + k5 by omega, b5]; rfl
  · rintro ⟨hk, hw⟩
    subst hk
    have s0 : sdN B a 0 = 0 := rfl
    have s1 : sdN B a 1 = 12 := (sd_peel (N := 0) (x := 12) (by decide) (by decide) (fun i hi => hB i (by omega))).mpr ⟨0, rfl, s0, by rw [hw 0 (by decide)]; rfl⟩
    have s2 : sdN B a 2 = 329 := (sd_peel (N := 12) (x := 5) (by decide) (by decide) (fun i hi => hB i (by omega))).mpr ⟨1, rfl, s1, by rw [hw 1 (by decide)]; rfl⟩
    have s3 : sdN B a 3 = 8903 := (sd_peel (N := 329) (x := 20) (by decide) (by decide) (fun i hi => hB i (by omega))).mpr ⟨2, rfl, s2, by rw [hw 2 (by decide)]; rfl⟩
    have s4 : sdN B a 4 = 240401 := (sd_peel (N := 8903) (x := 20) (by decide) (by decide) (fun i hi => hB i (by omega))).mpr ⟨3, rfl, s3, by rw [hw 3 (by decide)]; rfl⟩
    have s5 : sdN B a 5 = 6490832 := (sd_peel (N := 240401) (x := 5) (by decide) (by decide) (fun i hi => hB i (by omega))).mpr ⟨4, rfl, s4, by rw [hw 4 (by decide)]; rfl⟩
    have s6 : sdN B a 6 = 175252482 := (sd_peel (N := 6490832) (x := 18) (by decide) (by decide) (fun i hi => hB i (by omega))).mpr ⟨5, rfl, s5, by rw [hw 5 (by decide)]; rfl⟩
    exact s6

theorem sd_stone {B : Nat → Nat} {a k : Nat} (hB : ∀ i, i < k → 97 ≤ B (a + i) ∧ B (a + i) ≤ 122) : sdN B a k = 10502357 ↔ (k = 5 ∧ ∀ i, i < 5 → B (a + i) = ([115, 116, 111, 110, 101] : List Nat).getD i 0) := by
  constructor
  · intro h
    obtain ⟨k4, e4, h4, b4⟩ := (sd_peel (N := 388976) (x := 5) (by decide) (by decide) (fun i hi => hB i (by omega))).mp h
    obtain ⟨k3, e3, h3, b3⟩ := (sd_peel (N := 14406) (x := 14) (by decide) (by decide) (fun i hi => hB i (by omega))).mp h4
    obtain ⟨k2, e2, h2, b2⟩ := (sd_peel (N := 533) (x := 15) (by decide) (by decide) (fun i hi => hB i (by omega))).mp h3
    obtain ⟨k1, e1, h1, b1⟩ := (sd_peel (N := 19) (x := 20) (by decide) (by decide) (fun i hi => hB i (by omega))).mp h2
    obtain ⟨k0, e0, h0, b0⟩ := (sd_peel (N := 0) (x := 19) (by decide) (by decide) (fun i hi => hB i (by omega))).mp h1
    have z := (sd_zero (fun i hi => hB i (by omega))).mp h0
    refine ⟨by omega, fun i hi => ?_⟩
    have : i = 0 ∨ i = 1 ∨ i = 2 ∨ i = 3 ∨ i = 4 := by omega
    rcases this with q | q | q | q | q
    · rw [q, show a + 0 = a + k0 by omega, b0]; rfl
    · rw [q, show a + 1 = a + k1 by omega, b1]; rfl
    · rw [q, show a + 2 = a + k2 by omega, b2]; rfl
    · rw [q, show a + 3 = a + k3 by omega, b3]; rfl
    · rw [q, show a + 4 = a + k4 by omega, b4]; rfl
  · rintro ⟨hk, hw⟩
    subst hk
    have s0 : sdN B a 0 = 0 := rfl
    have s1 : sdN B a 1 = 19 := (sd_peel (N := 0) (x := 19) (by decide) (by decide) (fun i hi => hB i (by omega))).mpr ⟨0, rfl, s0, by rw [hw 0 (by decide)]; rfl⟩
    have s2 : sdN B a 2 = 533 := (sd_peel (N := 19) (x := 20) (by decide) (by decide) (fun i hi => hB i (by omega))).mpr ⟨1, rfl, s1, by rw [hw 1 (by decide)]; rfl⟩
    have s3 : sdN B a 3 = 14406 := (sd_peel (N := 533) (x := 15) (by decide) (by decide) (fun i hi => hB i (by omega))).mpr ⟨2, rfl, s2, by rw [hw 2 (by decide)]; rfl⟩
    have s4 : sdN B a 4 = 388976 := (sd_peel (N := 14406) (x := 14) (by decide) (by decide) (fun i hi => hB i (by omega))).mpr ⟨3, rfl, s3, by rw [hw 3 (by decide)]; rfl⟩
    have s5 : sdN B a 5 = 10502357 := (sd_peel (N := 388976) (x := 5) (by decide) (by decide) (fun i hi => hB i (by omega))).mpr ⟨4, rfl, s4, by rw [hw 4 (by decide)]; rfl⟩
    exact s5

theorem lN_big {n : Nat} (h : n < 2 ^ 62) : (lN n).toInt = (n : Int) := lg_ofNat_toInt (by omega)
theorem lN_lt2 {a b : Nat} (ha : a < 2 ^ 62) (hb : b < 2 ^ 62) : lN a < lN b ↔ a < b := by
  rw [Int64.lt_iff_toInt_lt, lN_big ha, lN_big hb]
  omega
theorem lN_eq2 {a b : Nat} (ha : a < 2 ^ 62) (hb : b < 2 ^ 62) : lN a = lN b ↔ a = b := by
  rw [← Int64.toInt_inj, lN_big ha, lN_big hb]
  omega
theorem lN_sub2 {a b : Nat} (h : b ≤ a) : lN a - lN b = lN (a - b) := by
  have : lN a = lN (a - b) + lN b := by rw [lN_add, Nat.sub_add_cancel h]
  rw [this, Int64.add_sub_cancel]
theorem cmp_eq0 (x y : Int64) : lg_cmp x y = 0 ↔ x = y := by
  constructor
  · intro h
    have h1 : ¬ x < y := fun q => by have := (cmp_lt x y).mpr q; rw [h] at this; exact absurd this (by decide)
    have h2 : ¬ y < x := fun q => by have := (cmp_gt x y).mpr q; rw [h] at this; exact absurd this (by decide)
    exact Int64.le_antisymm (Int64.not_lt.mp h2) (Int64.not_lt.mp h1)
  · intro h
    subst h
    have h1 : ¬ lg_cmp x x < 0 := fun q => Int64.lt_irrefl ((cmp_lt x x).mp q)
    have h2 : ¬ 0 < lg_cmp x x := fun q => Int64.lt_irrefl ((cmp_gt x x).mp q)
    exact Int32.le_antisymm (Int32.not_lt.mp h2) (Int32.not_lt.mp h1)
theorem sd_b {B : Nat → Nat} {a : Nat} : ∀ {k : Nat}, (∀ i, i < k → B (a + i) < 256) → sdN B a k < 2 ^ 45
  | 0, _ => by show 0 < 2 ^ 45; decide
  | k + 1, h => by
    have := h k (by omega)
    unfold sdN
    split <;> omega
