/-! CALLS: agreed -/
theorem s_isIn_n {d l : Nat} {P : mm_O} {σ : mm_M} {x : Int32} (hl : l < 31) : mm_run shC (d + 1) 76 [.int x, .int (nI l)] σ P = P (some (.int (if bt x l = true then 1 else 0))) σ := by
  rw [s_isIn]
  have e := m_bit (x := x) hl
  by_cases h : bt x l = true
  · rw [if_neg (fun q => by rw [e.mp q] at h; cases h), if_pos h]
  · rw [if_pos (e.mpr (by simpa using h)), if_neg h]
theorem nI_sub {a b : Nat} (h : b ≤ a) : nI a - nI b = nI (a - b) := by
  have e : nI a = nI (a - b) + nI b := by rw [nI_add, Nat.sub_add_cancel h]
  rw [e, Int32.add_sub_cancel]
/-- how heavy the heaviest of a set is -/
def hmF (x : Int32) (hv : Nat → Int32) : Nat → Int32
  | 0 => 0
  | k + 1 => if bt x k = true then (if hmF x hv k < hv k then hv k else hmF x hv k) else hmF x hv k
theorem hmF_s (x : Int32) (hv : Nat → Int32) (k : Nat) : hmF x hv (k + 1) = if bt x k = true then (if hmF x hv k < hv k then hv k else hmF x hv k) else hmF x hv k := rfl
theorem hmF_congr {x : Int32} {f g : Nat → Int32} : ∀ {k : Nat}, (∀ i, i < k → f i = g i) → hmF x f k = hmF x g k
  | 0, _ => rfl
  | k + 1, h => by unfold hmF; rw [hmF_congr (fun i hi => h i (by omega)), h k (by omega)]
theorem hmF_rg {x : Int32} {hv : Nat → Int32} {b : Nat} (hb : b < 2 ^ 31) : ∀ {k : Nat}, (∀ i, i < k → rg (hv i) 0 b) → rg (hmF x hv k) 0 b ∧ ∀ i, i < k → bt x i = true → hv i ≤ hmF x hv k
  | 0, _ => ⟨⟨0, by omega, by omega, rfl⟩, fun i hi => by omega⟩
  | k + 1, h => by
    obtain ⟨e1, e2⟩ := hmF_rg (x := x) (hv := hv) hb (fun i hi => h i (show i < k + 1 by omega)) (k := k)
    have hk := h k (by omega)
    unfold hmF
    by_cases hx : bt x k = true
    · rw [if_pos hx]
      by_cases hc : hmF x hv k < hv k
      · rw [if_pos hc]
        refine ⟨hk, fun i hi hbi => ?_⟩
        rcases Nat.lt_or_ge i k with q | q
        · exact Int32.le_trans (e2 i q hbi) (Int32.le_of_lt hc)
        · rw [show i = k by omega]; exact Int32.le_refl _
      · rw [if_neg hc]
        refine ⟨e1, fun i hi hbi => ?_⟩
        rcases Nat.lt_or_ge i k with q | q
        · exact e2 i q hbi
        · rw [show i = k by omega]; exact Int32.not_lt.mp hc
    · rw [if_neg hx]
      refine ⟨e1, fun i hi hbi => ?_⟩
      rcases Nat.lt_or_ge i k with q | q
      · exact e2 i q hbi
      · rw [show i = k by omega] at hbi; exact absurd hbi hx
/-- the stones that a set agrees on -/
def agF (x H : Int32) (w s : Nat → Int32) (l : Nat) : Int32 := if bt x l = true then H - w l else s l
theorem agree_1 {d n : Nat} {P : mm_O} {σ : mm_M} {x : Int32} (hn : n ≤ 7) (hc : σ.1 11 8 = nI n) (a4 : Value) : ∀ (j k : Nat), j + k = n → mm_at shC (d + 1) 75 [] P 4 [.ref 0, .int x, .int (hmF x (hvF σ 18) k), .int (nI k), a4] [] σ = mm_at shC (d + 1) 75 [] P 57 [.ref 0, .int x, .int (hmF x (hvF σ 18) n), .int (nI n), a4] [] σ := by
  intro j
  induction j with
  | zero =>
    intro k hk
    have hk : k = n := by omega
    subst hk
    rw [qX6_agreeOnWeight_4]
    simp only [qX6_agreeOnWeight_0, qX6_agreeOnWeight_1, qX6_agreeOnWeight_2, qX6_agreeOnWeight_3, qX6_agreeOnWeight_5, qX6_agreeOnWeight_6, qX6_agreeOnWeight_9, qX6_agreeOnWeight_12, qX6_agreeOnWeight_15, qX6_agreeOnWeight_16, qX6_agreeOnWeight_17, qX6_agreeOnWeight_20, qX6_agreeOnWeight_23, qX6_agreeOnWeight_24, qX6_agreeOnWeight_25, qX6_agreeOnWeight_28, qX6_agreeOnWeight_31, qX6_agreeOnWeight_32, qX6_agreeOnWeight_35, qX6_agreeOnWeight_36, qX6_agreeOnWeight_39, qX6_agreeOnWeight_42, qX6_agreeOnWeight_43, qX6_agreeOnWeight_46, qX6_agreeOnWeight_47, qX6_agreeOnWeight_50, qX6_agreeOnWeight_51, qX6_agreeOnWeight_54, qX6_agreeOnWeight_58, qX6_agreeOnWeight_61, qX6_agreeOnWeight_64, qX6_agreeOnWeight_65, qX6_agreeOnWeight_68, qX6_agreeOnWeight_71, qX6_agreeOnWeight_72, qX6_agreeOnWeight_74, qX6_agreeOnWeight_75, qX6_agreeOnWeight_78, qX6_agreeOnWeight_81, qX6_agreeOnWeight_84, qX6_agreeOnWeight_85, qX6_agreeOnWeight_86, qX6_agreeOnWeight_89, qX6_agreeOnWeight_92, qX6_agreeOnWeight_93, qX6_agreeOnWeight_94, qX6_agreeOnWeight_97, qX6_agreeOnWeight_100, qX6_agreeOnWeight_101, qX6_agreeOnWeight_104, qX6_agreeOnWeight_105, qX6_agreeOnWeight_107, qX6_agreeOnWeight_109, qX6_agreeOnWeight_111, qX6_agreeOnWeight_114, qX6_agreeOnWeight_115, qX6_agreeOnWeight_116, qX6_agreeOnWeight_117, qX6_agreeOnWeight_120, qX6_agreeOnWeight_121, qX6_agreeOnWeight_123, qX6_agreeOnWeight_126, qX6_agreeOnWeight_129, qX6_agreeOnWeight_132, qX6_agreeOnWeight_133, hc, show nI k ≤ nI k from nI_le (Nat.le_refl k) (by omega), if_true]
  | succ j ih =>
    intro k hk
    have h1 : ¬ nI n ≤ nI k := nI_ge (by omega) (by omega)
    have e := ih (k + 1) (by omega)
    rw [qX6_agreeOnWeight_4]
    rw [hmF_s x (hvF σ 18) k] at e
    by_cases hx : bt x k = true
    · rw [if_pos hx] at e
      simp only [qX6_agreeOnWeight_0, qX6_agreeOnWeight_1, qX6_agreeOnWeight_2, qX6_agreeOnWeight_3, qX6_agreeOnWeight_5, qX6_agreeOnWeight_6, qX6_agreeOnWeight_9, qX6_agreeOnWeight_12, qX6_agreeOnWeight_15, qX6_agreeOnWeight_16, qX6_agreeOnWeight_17, qX6_agreeOnWeight_20, qX6_agreeOnWeight_23, qX6_agreeOnWeight_24, qX6_agreeOnWeight_25, qX6_agreeOnWeight_28, qX6_agreeOnWeight_31, qX6_agreeOnWeight_32, qX6_agreeOnWeight_35, qX6_agreeOnWeight_36, qX6_agreeOnWeight_39, qX6_agreeOnWeight_42, qX6_agreeOnWeight_43, qX6_agreeOnWeight_46, qX6_agreeOnWeight_47, qX6_agreeOnWeight_50, qX6_agreeOnWeight_51, qX6_agreeOnWeight_54, qX6_agreeOnWeight_58, qX6_agreeOnWeight_61, qX6_agreeOnWeight_64, qX6_agreeOnWeight_65, qX6_agreeOnWeight_68, qX6_agreeOnWeight_71, qX6_agreeOnWeight_72, qX6_agreeOnWeight_74, qX6_agreeOnWeight_75, qX6_agreeOnWeight_78, qX6_agreeOnWeight_81, qX6_agreeOnWeight_84, qX6_agreeOnWeight_85, qX6_agreeOnWeight_86, qX6_agreeOnWeight_89, qX6_agreeOnWeight_92, qX6_agreeOnWeight_93, qX6_agreeOnWeight_94, qX6_agreeOnWeight_97, qX6_agreeOnWeight_100, qX6_agreeOnWeight_101, qX6_agreeOnWeight_104, qX6_agreeOnWeight_105, qX6_agreeOnWeight_107, qX6_agreeOnWeight_109, qX6_agreeOnWeight_111, qX6_agreeOnWeight_114, qX6_agreeOnWeight_115, qX6_agreeOnWeight_116, qX6_agreeOnWeight_117, qX6_agreeOnWeight_120, qX6_agreeOnWeight_121, qX6_agreeOnWeight_123, qX6_agreeOnWeight_126, qX6_agreeOnWeight_129, qX6_agreeOnWeight_132, qX6_agreeOnWeight_133, hc, h1, if_false, s_isIn_n (show k < 31 by omega), hx, if_true, show ¬ (1 : Int32) = 0 by decide, s_at_15, s_at_18, Option.toList, List.cons_append, List.nil_append, nI_1]
      rw [atF_in _ (show k < 7 by omega) (by decide), atF_in _ (show k < 7 by omega) (by decide)]
      exact e
    · rw [if_neg hx] at e
      simp only [qX6_agreeOnWeight_0, qX6_agreeOnWeight_1, qX6_agreeOnWeight_2, qX6_agreeOnWeight_3, qX6_agreeOnWeight_5, qX6_agreeOnWeight_6, qX6_agreeOnWeight_9, qX6_agreeOnWeight_12, qX6_agreeOnWeight_15, qX6_agreeOnWeight_16, qX6_agreeOnWeight_17, qX6_agreeOnWeight_20, qX6_agreeOnWeight_23, qX6_agreeOnWeight_24, qX6_agreeOnWeight_25, qX6_agreeOnWeight_28, qX6_agreeOnWeight_31, qX6_agreeOnWeight_32, qX6_agreeOnWeight_35, qX6_agreeOnWeight_36, qX6_agreeOnWeight_39, qX6_agreeOnWeight_42, qX6_agreeOnWeight_43, qX6_agreeOnWeight_46, qX6_agreeOnWeight_47, qX6_agreeOnWeight_50, qX6_agreeOnWeight_51, qX6_agreeOnWeight_54, qX6_agreeOnWeight_58, qX6_agreeOnWeight_61, qX6_agreeOnWeight_64, qX6_agreeOnWeight_65, qX6_agreeOnWeight_68, qX6_agreeOnWeight_71, qX6_agreeOnWeight_72, qX6_agreeOnWeight_74, qX6_agreeOnWeight_75, qX6_agreeOnWeight_78, qX6_agreeOnWeight_81, qX6_agreeOnWeight_84, qX6_agreeOnWeight_85, qX6_agreeOnWeight_86, qX6_agreeOnWeight_89, qX6_agreeOnWeight_92, qX6_agreeOnWeight_93, qX6_agreeOnWeight_94, qX6_agreeOnWeight_97, qX6_agreeOnWeight_100, qX6_agreeOnWeight_101, qX6_agreeOnWeight_104, qX6_agreeOnWeight_105, qX6_agreeOnWeight_107, qX6_agreeOnWeight_109, qX6_agreeOnWeight_111, qX6_agreeOnWeight_114, qX6_agreeOnWeight_115, qX6_agreeOnWeight_116, qX6_agreeOnWeight_117, qX6_agreeOnWeight_120, qX6_agreeOnWeight_121, qX6_agreeOnWeight_123, qX6_agreeOnWeight_126, qX6_agreeOnWeight_129, qX6_agreeOnWeight_132, qX6_agreeOnWeight_133, hc, h1, if_false, s_isIn_n (show k < 31 by omega), hx, if_true, Option.toList, List.cons_append, List.nil_append, nI_1, Bool.false_eq_true]
      exact e
/-- the second loop: rows 41 are the agreed ones below k -/
theorem agree_2 {n : Nat} {σ : mm_M} {x H : Int32} (hn : n ≤ 7) (hc : σ.1 11 8 = nI n) (hok : ∀ i, i < n → bt x i = true → H - σ.1 15 i ≤ 9) : ∀ (j k : Nat) (τ : mm_M), j + k = n → (∀ i, i ≠ 41 → τ.1 i = σ.1 i) → (∀ i, i < n → τ.1 41 i = if i < k then agF x H (σ.1 15) (σ.1 18) i else σ.1 18 i) → ∃ τ' : mm_M, (∀ i, i ≠ 41 → τ'.1 i = σ.1 i) ∧ (∀ i, i < n → τ'.1 41 i = agF x H (σ.1 15) (σ.1 18) i) ∧ ∀ (d : Nat) (P : mm_O) (a4 : Value), mm_at shC (d + 1) 75 [] P 73 [.ref 0, .int x, .int H, .int (nI k), a4] [] τ = P (some (.int 1)) τ' := by
  intro j
  induction j with
  | zero =>
    intro k τ hk k1 k2
    have hk : k = n := by omega
    subst hk
    refine ⟨τ, k1, fun i hi => by rw [k2 i hi, if_pos hi], fun d P a4 => ?_⟩
    rw [qX6_agreeOnWeight_73]
    simp only [qX6_agreeOnWeight_0, qX6_agreeOnWeight_1, qX6_agreeOnWeight_2, qX6_agreeOnWeight_3, qX6_agreeOnWeight_5, qX6_agreeOnWeight_6, qX6_agreeOnWeight_9, qX6_agreeOnWeight_12, qX6_agreeOnWeight_15, qX6_agreeOnWeight_16, qX6_agreeOnWeight_17, qX6_agreeOnWeight_20, qX6_agreeOnWeight_23, qX6_agreeOnWeight_24, qX6_agreeOnWeight_25, qX6_agreeOnWeight_28, qX6_agreeOnWeight_31, qX6_agreeOnWeight_32, qX6_agreeOnWeight_35, qX6_agreeOnWeight_36, qX6_agreeOnWeight_39, qX6_agreeOnWeight_42, qX6_agreeOnWeight_43, qX6_agreeOnWeight_46, qX6_agreeOnWeight_47, qX6_agreeOnWeight_50, qX6_agreeOnWeight_51, qX6_agreeOnWeight_54, qX6_agreeOnWeight_57, qX6_agreeOnWeight_58, qX6_agreeOnWeight_61, qX6_agreeOnWeight_64, qX6_agreeOnWeight_65, qX6_agreeOnWeight_68, qX6_agreeOnWeight_71, qX6_agreeOnWeight_72, qX6_agreeOnWeight_74, qX6_agreeOnWeight_75, qX6_agreeOnWeight_78, qX6_agreeOnWeight_81, qX6_agreeOnWeight_84, qX6_agreeOnWeight_85, qX6_agreeOnWeight_86, qX6_agreeOnWeight_89, qX6_agreeOnWeight_92, qX6_agreeOnWeight_93, qX6_agreeOnWeight_94, qX6_agreeOnWeight_97, qX6_agreeOnWeight_100, qX6_agreeOnWeight_101, qX6_agreeOnWeight_104, qX6_agreeOnWeight_105, qX6_agreeOnWeight_107, qX6_agreeOnWeight_109, qX6_agreeOnWeight_111, qX6_agreeOnWeight_114, qX6_agreeOnWeight_115, qX6_agreeOnWeight_116, qX6_agreeOnWeight_117, qX6_agreeOnWeight_120, qX6_agreeOnWeight_121, qX6_agreeOnWeight_123, qX6_agreeOnWeight_126, qX6_agreeOnWeight_129, qX6_agreeOnWeight_132, qX6_agreeOnWeight_133, k1 11 (by decide), hc, show nI k ≤ nI k from nI_le (Nat.le_refl k) (by omega), if_true]
    simp
  | succ j ih =>
    intro k τ hk k1 k2
    have h1 : ¬ nI n ≤ nI k := nI_ge (by omega) (by omega)
    have hk7 : k < 7 := by omega
    by_cases hx : bt x k = true
    · obtain ⟨τ', i1, i2, i3⟩ := ih (k + 1) (mm_set τ 41 (upd (τ.1 41) k (H - σ.1 15 k))) (by omega) (fun i hi => by rw [mm_set_ne _ _ hi]; exact k1 i hi) (fun i hi => by
        rw [mm_set_same, upd_1]
        by_cases e : i = k
        · subst e
          rw [if_pos rfl, if_pos (by omega)]
          unfold agF
          rw [if_pos hx]
        · rw [if_neg e, k2 i hi]
          by_cases e2 : i < k
          · rw [if_pos e2, if_pos (by omega)]
          · rw [if_neg e2, if_neg (by omega)])
      refine ⟨τ', i1, i2, fun d P a4 => ?_⟩
      rw [← i3 d P (.int (H - σ.1 15 k)), qX6_agreeOnWeight_73]
      simp only [qX6_agreeOnWeight_0, qX6_agreeOnWeight_1, qX6_agreeOnWeight_2, qX6_agreeOnWeight_3, qX6_agreeOnWeight_5, qX6_agreeOnWeight_6, qX6_agreeOnWeight_9, qX6_agreeOnWeight_12, qX6_agreeOnWeight_15, qX6_agreeOnWeight_16, qX6_agreeOnWeight_17, qX6_agreeOnWeight_20, qX6_agreeOnWeight_23, qX6_agreeOnWeight_24, qX6_agreeOnWeight_25, qX6_agreeOnWeight_28, qX6_agreeOnWeight_31, qX6_agreeOnWeight_32, qX6_agreeOnWeight_35, qX6_agreeOnWeight_36, qX6_agreeOnWeight_39, qX6_agreeOnWeight_42, qX6_agreeOnWeight_43, qX6_agreeOnWeight_46, qX6_agreeOnWeight_47, qX6_agreeOnWeight_50, qX6_agreeOnWeight_51, qX6_agreeOnWeight_54, qX6_agreeOnWeight_57, qX6_agreeOnWeight_58, qX6_agreeOnWeight_61, qX6_agreeOnWeight_64, qX6_agreeOnWeight_65, qX6_agreeOnWeight_68, qX6_agreeOnWeight_71, qX6_agreeOnWeight_72, qX6_agreeOnWeight_74, qX6_agreeOnWeight_75, qX6_agreeOnWeight_78, qX6_agreeOnWeight_81, qX6_agreeOnWeight_84, qX6_agreeOnWeight_85, qX6_agreeOnWeight_86, qX6_agreeOnWeight_89, qX6_agreeOnWeight_92, qX6_agreeOnWeight_93, qX6_agreeOnWeight_94, qX6_agreeOnWeight_97, qX6_agreeOnWeight_100, qX6_agreeOnWeight_101, qX6_agreeOnWeight_104, qX6_agreeOnWeight_105, qX6_agreeOnWeight_107, qX6_agreeOnWeight_109, qX6_agreeOnWeight_111, qX6_agreeOnWeight_114, qX6_agreeOnWeight_115, qX6_agreeOnWeight_116, qX6_agreeOnWeight_117, qX6_agreeOnWeight_120, qX6_agreeOnWeight_121, qX6_agreeOnWeight_123, qX6_agreeOnWeight_126, qX6_agreeOnWeight_129, qX6_agreeOnWeight_132, qX6_agreeOnWeight_133, k1 11 (by decide), k1 15 (by decide), hc, h1, if_false, s_isIn_n (show k < 31 by omega), hx, if_true, show ¬ (1 : Int32) = 0 by decide, s_at_15, s_put_41, Option.toList, List.cons_append, List.nil_append, nI_1]
      rw [atF_in _ hk7 (by decide), putF_in _ _ hk7 (by decide)]
      simp only [hok k (by omega) hx, if_true]
    · obtain ⟨τ', i1, i2, i3⟩ := ih (k + 1) τ (by omega) k1 (fun i hi => by
        rw [k2 i hi]
        by_cases e : i = k
        · subst e
          rw [if_neg (by omega), if_pos (by omega)]
          unfold agF
          rw [if_neg hx]
        · by_cases e2 : i < k
          · rw [if_pos e2, if_pos (by omega)]
          · rw [if_neg e2, if_neg (by omega)])
      refine ⟨τ', i1, i2, fun d P a4 => ?_⟩
      rw [← i3 d P a4, qX6_agreeOnWeight_73]
      simp only [qX6_agreeOnWeight_0, qX6_agreeOnWeight_1, qX6_agreeOnWeight_2, qX6_agreeOnWeight_3, qX6_agreeOnWeight_5, qX6_agreeOnWeight_6, qX6_agreeOnWeight_9, qX6_agreeOnWeight_12, qX6_agreeOnWeight_15, qX6_agreeOnWeight_16, qX6_agreeOnWeight_17, qX6_agreeOnWeight_20, qX6_agreeOnWeight_23, qX6_agreeOnWeight_24, qX6_agreeOnWeight_25, qX6_agreeOnWeight_28, qX6_agreeOnWeight_31, qX6_agreeOnWeight_32, qX6_agreeOnWeight_35, qX6_agreeOnWeight_36, qX6_agreeOnWeight_39, qX6_agreeOnWeight_42, qX6_agreeOnWeight_43, qX6_agreeOnWeight_46, qX6_agreeOnWeight_47, qX6_agreeOnWeight_50, qX6_agreeOnWeight_51, qX6_agreeOnWeight_54, qX6_agreeOnWeight_57, qX6_agreeOnWeight_58, qX6_agreeOnWeight_61, qX6_agreeOnWeight_64, qX6_agreeOnWeight_65, qX6_agreeOnWeight_68, qX6_agreeOnWeight_71, qX6_agreeOnWeight_72, qX6_agreeOnWeight_74, qX6_agreeOnWeight_75, qX6_agreeOnWeight_78, qX6_agreeOnWeight_81, qX6_agreeOnWeight_84, qX6_agreeOnWeight_85, qX6_agreeOnWeight_86, qX6_agreeOnWeight_89, qX6_agreeOnWeight_92, qX6_agreeOnWeight_93, qX6_agreeOnWeight_94, qX6_agreeOnWeight_97, qX6_agreeOnWeight_100, qX6_agreeOnWeight_101, qX6_agreeOnWeight_104, qX6_agreeOnWeight_105, qX6_agreeOnWeight_107, qX6_agreeOnWeight_109, qX6_agreeOnWeight_111, qX6_agreeOnWeight_114, qX6_agreeOnWeight_115, qX6_agreeOnWeight_116, qX6_agreeOnWeight_117, qX6_agreeOnWeight_120, qX6_agreeOnWeight_121, qX6_agreeOnWeight_123, qX6_agreeOnWeight_126, qX6_agreeOnWeight_129, qX6_agreeOnWeight_132, qX6_agreeOnWeight_133, k1 11 (by decide), hc, h1, if_false, s_isIn_n (show k < 31 by omega), hx, if_true, Option.toList, List.cons_append, List.nil_append, nI_1, Bool.false_eq_true]
theorem agree_no {n : Nat} {σ : mm_M} {x H : Int32} (hn : n ≤ 7) (hc : σ.1 11 8 = nI n) : ∀ (j k : Nat) (τ : mm_M), j + k = n → (∃ i, k ≤ i ∧ i < n ∧ bt x i = true ∧ ¬ H - σ.1 15 i ≤ 9) → (∀ i, i ≠ 41 → τ.1 i = σ.1 i) → ∃ τ' : mm_M, (∀ i, i ≠ 41 → τ'.1 i = σ.1 i) ∧ ∀ (d : Nat) (P : mm_O) (a4 : Value), mm_at shC (d + 1) 75 [] P 73 [.ref 0, .int x, .int H, .int (nI k), a4] [] τ = P (some (.int 0)) τ' := by
  intro j
  induction j with
  | zero =>
    intro k τ hk ⟨i, h1, h2, _⟩
    omega
  | succ j ih =>
    intro k τ hk ⟨i, x1, x2, x3, x4⟩ k1
    have h1 : ¬ nI n ≤ nI k := nI_ge (by omega) (by omega)
    have hk7 : k < 7 := by omega
    have hnext : k ≠ i → ∃ q, k + 1 ≤ q ∧ q < n ∧ bt x q = true ∧ ¬ H - σ.1 15 q ≤ 9 := fun q => ⟨i, by omega, x2, x3, x4⟩
    by_cases hx : bt x k = true
    · by_cases h9 : H - σ.1 15 k ≤ 9
      · obtain ⟨τ', i1, i3⟩ := ih (k + 1) (mm_set τ 41 (upd (τ.1 41) k (H - σ.1 15 k))) (by omega) (hnext (fun e => x4 (by rw [← e]; exact h9))) (fun i hi => by rw [mm_set_ne _ _ hi]; exact k1 i hi)
        refine ⟨τ', i1, fun d P a4 => ?_⟩
        rw [← i3 d P (.int (H - σ.1 15 k)), qX6_agreeOnWeight_73]
        simp only [qX6_agreeOnWeight_0, qX6_agreeOnWeight_1, qX6_agreeOnWeight_2, qX6_agreeOnWeight_3, qX6_agreeOnWeight_5, qX6_agreeOnWeight_6, qX6_agreeOnWeight_9, qX6_agreeOnWeight_12, qX6_agreeOnWeight_15, qX6_agreeOnWeight_16, qX6_agreeOnWeight_17, qX6_agreeOnWeight_20, qX6_agreeOnWeight_23, qX6_agreeOnWeight_24, qX6_agreeOnWeight_25, qX6_agreeOnWeight_28, qX6_agreeOnWeight_31, qX6_agreeOnWeight_32, qX6_agreeOnWeight_35, qX6_agreeOnWeight_36, qX6_agreeOnWeight_39, qX6_agreeOnWeight_42, qX6_agreeOnWeight_43, qX6_agreeOnWeight_46, qX6_agreeOnWeight_47, qX6_agreeOnWeight_50, qX6_agreeOnWeight_51, qX6_agreeOnWeight_54, qX6_agreeOnWeight_57, qX6_agreeOnWeight_58, qX6_agreeOnWeight_61, qX6_agreeOnWeight_64, qX6_agreeOnWeight_65, qX6_agreeOnWeight_68, qX6_agreeOnWeight_71, qX6_agreeOnWeight_72, qX6_agreeOnWeight_74, qX6_agreeOnWeight_75, qX6_agreeOnWeight_78, qX6_agreeOnWeight_81, qX6_agreeOnWeight_84, qX6_agreeOnWeight_85, qX6_agreeOnWeight_86, qX6_agreeOnWeight_89, qX6_agreeOnWeight_92, qX6_agreeOnWeight_93, qX6_agreeOnWeight_94, qX6_agreeOnWeight_97, qX6_agreeOnWeight_100, qX6_agreeOnWeight_101, qX6_agreeOnWeight_104, qX6_agreeOnWeight_105, qX6_agreeOnWeight_107, qX6_agreeOnWeight_109, qX6_agreeOnWeight_111, qX6_agreeOnWeight_114, qX6_agreeOnWeight_115, qX6_agreeOnWeight_116, qX6_agreeOnWeight_117, qX6_agreeOnWeight_120, qX6_agreeOnWeight_121, qX6_agreeOnWeight_123, qX6_agreeOnWeight_126, qX6_agreeOnWeight_129, qX6_agreeOnWeight_132, qX6_agreeOnWeight_133, k1 11 (by decide), k1 15 (by decide), hc, h1, if_false, s_isIn_n (show k < 31 by omega), hx, if_true, show ¬ (1 : Int32) = 0 by decide, s_at_15, s_put_41, Option.toList, List.cons_append, List.nil_append, nI_1]
        rw [atF_in _ hk7 (by decide), putF_in _ _ hk7 (by decide)]
        simp only [h9, if_true]
      · refine ⟨τ, k1, fun d P a4 => ?_⟩
        rw [qX6_agreeOnWeight_73]
        simp only [qX6_agreeOnWeight_0, qX6_agreeOnWeight_1, qX6_agreeOnWeight_2, qX6_agreeOnWeight_3, qX6_agreeOnWeight_5, qX6_agreeOnWeight_6, qX6_agreeOnWeight_9, qX6_agreeOnWeight_12, qX6_agreeOnWeight_15, qX6_agreeOnWeight_16, qX6_agreeOnWeight_17, qX6_agreeOnWeight_20, qX6_agreeOnWeight_23, qX6_agreeOnWeight_24, qX6_agreeOnWeight_25, qX6_agreeOnWeight_28, qX6_agreeOnWeight_31, qX6_agreeOnWeight_32, qX6_agreeOnWeight_35, qX6_agreeOnWeight_36, qX6_agreeOnWeight_39, qX6_agreeOnWeight_42, qX6_agreeOnWeight_43, qX6_agreeOnWeight_46, qX6_agreeOnWeight_47, qX6_agreeOnWeight_50, qX6_agreeOnWeight_51, qX6_agreeOnWeight_54, qX6_agreeOnWeight_57, qX6_agreeOnWeight_58, qX6_agreeOnWeight_61, qX6_agreeOnWeight_64, qX6_agreeOnWeight_65, qX6_agreeOnWeight_68, qX6_agreeOnWeight_71, qX6_agreeOnWeight_72, qX6_agreeOnWeight_74, qX6_agreeOnWeight_75, qX6_agreeOnWeight_78, qX6_agreeOnWeight_81, qX6_agreeOnWeight_84, qX6_agreeOnWeight_85, qX6_agreeOnWeight_86, qX6_agreeOnWeight_89, qX6_agreeOnWeight_92, qX6_agreeOnWeight_93, qX6_agreeOnWeight_94, qX6_agreeOnWeight_97, qX6_agreeOnWeight_100, qX6_agreeOnWeight_101, qX6_agreeOnWeight_104, qX6_agreeOnWeight_105, qX6_agreeOnWeight_107, qX6_agreeOnWeight_109, qX6_agreeOnWeight_111, qX6_agreeOnWeight_114, qX6_agreeOnWeight_115, qX6_agreeOnWeight_116, qX6_agreeOnWeight_117, qX6_agreeOnWeight_120, qX6_agreeOnWeight_121, qX6_agreeOnWeight_123, qX6_agreeOnWeight_126, qX6_agreeOnWeight_129, qX6_agreeOnWeight_132, qX6_agreeOnWeight_133, k1 11 (by decide), k1 15 (by decide), hc, h1, if_false, s_isIn_n (show k < 31 by omega), hx, if_true, show ¬ (1 : Int32) = 0 by decide, s_at_15, s_put_41, Option.toList, List.cons_append, List.nil_append, nI_1]
        rw [atF_in _ hk7 (by decide)]
        simp only [h9, if_false, true_or, true_and]
    · obtain ⟨τ', i1, i3⟩ := ih (k + 1) τ (by omega) (hnext (fun e => hx (by rw [e]; exact x3))) k1
      refine ⟨τ', i1, fun d P a4 => ?_⟩
      rw [← i3 d P a4, qX6_agreeOnWeight_73]
      simp only [qX6_agreeOnWeight_0, qX6_agreeOnWeight_1, qX6_agreeOnWeight_2, qX6_agreeOnWeight_3, qX6_agreeOnWeight_5, qX6_agreeOnWeight_6, qX6_agreeOnWeight_9, qX6_agreeOnWeight_12, qX6_agreeOnWeight_15, qX6_agreeOnWeight_16, qX6_agreeOnWeight_17, qX6_agreeOnWeight_20, qX6_agreeOnWeight_23, qX6_agreeOnWeight_24, qX6_agreeOnWeight_25, qX6_agreeOnWeight_28, qX6_agreeOnWeight_31, qX6_agreeOnWeight_32, qX6_agreeOnWeight_35, qX6_agreeOnWeight_36, qX6_agreeOnWeight_39, qX6_agreeOnWeight_42, qX6_agreeOnWeight_43, qX6_agreeOnWeight_46, qX6_agreeOnWeight_47, qX6_agreeOnWeight_50, qX6_agreeOnWeight_51, qX6_agreeOnWeight_54, qX6_agreeOnWeight_57, qX6_agreeOnWeight_58, qX6_agreeOnWeight_61, qX6_agreeOnWeight_64, qX6_agreeOnWeight_65, qX6_agreeOnWeight_68, qX6_agreeOnWeight_71, qX6_agreeOnWeight_72, qX6_agreeOnWeight_74, qX6_agreeOnWeight_75, qX6_agreeOnWeight_78, qX6_agreeOnWeight_81, qX6_agreeOnWeight_84, qX6_agreeOnWeight_85, qX6_agreeOnWeight_86, qX6_agreeOnWeight_89, qX6_agreeOnWeight_92, qX6_agreeOnWeight_93, qX6_agreeOnWeight_94, qX6_agreeOnWeight_97, qX6_agreeOnWeight_100, qX6_agreeOnWeight_101, qX6_agreeOnWeight_104, qX6_agreeOnWeight_105, qX6_agreeOnWeight_107, qX6_agreeOnWeight_109, qX6_agreeOnWeight_111, qX6_agreeOnWeight_114, qX6_agreeOnWeight_115, qX6_agreeOnWeight_116, qX6_agreeOnWeight_117, qX6_agreeOnWeight_120, qX6_agreeOnWeight_121, qX6_agreeOnWeight_123, qX6_agreeOnWeight_126, qX6_agreeOnWeight_129, qX6_agreeOnWeight_132, qX6_agreeOnWeight_133, k1 11 (by decide), hc, h1, if_false, s_isIn_n (show k < 31 by omega), hx, if_true, Option.toList, List.cons_append, List.nil_append, nI_1, Bool.false_eq_true]
theorem s_agree {n : Nat} {σ : mm_M} {x : Int32} (hn : n ≤ 7) (hc : σ.1 11 8 = nI n) : ∃ τ' : mm_M, (∀ i, i ≠ 41 → τ'.1 i = σ.1 i) ∧ (((∀ i, i < n → bt x i = true → hmF x (hvF σ 18) n - σ.1 15 i ≤ 9) ∧ (∀ i, i < n → τ'.1 41 i = agF x (hmF x (hvF σ 18) n) (σ.1 15) (σ.1 18) i) ∧ ∀ (d : Nat) (P : mm_O), mm_run shC (d + 2) 75 [.ref 0, .int x] σ P = P (some (.int 1)) τ') ∨ ((∃ i, i < n ∧ bt x i = true ∧ ¬ hmF x (hvF σ 18) n - σ.1 15 i ≤ 9) ∧ ∀ (d : Nat) (P : mm_O), mm_run shC (d + 2) 75 [.ref 0, .int x] σ P = P (some (.int 0)) τ')) := by
  have f0 := fun (d : Nat) (P : mm_O) => s_copyRow (d := d) (P := P) (σ := σ) (a := 18) (b := 41) (n := 7) rfl rfl (by decide) (by decide)
  generalize hτ : mm_set σ 41 (fun i => if i < 7 then σ.1 18 i else σ.1 41 i) = τ at f0
  have t1 : ∀ i, i ≠ 41 → τ.1 i = σ.1 i := fun i hi => by rw [← hτ, mm_set_ne _ _ hi]
  have t2 : ∀ i, i < n → τ.1 41 i = if i < 0 then agF x (hmF x (hvF σ 18) n) (σ.1 15) (σ.1 18) i else σ.1 18 i := fun i hi => by rw [← hτ, mm_set_same, if_pos (by omega), if_neg (by omega)]
  have go : ∀ (d : Nat) (P : mm_O), mm_run shC (d + 2) 75 [.ref 0, .int x] σ P = mm_at shC (d + 1) 75 [] P 73 [.ref 0, .int x, .int (hmF x (hvF σ 18) n), .int (nI 0), .null] [] τ := fun d P => by
    have e := agree_1 (d := d) (P := P) (x := x) hn hc .null n 0 (by omega)
    rw [in_X6_agreeOnWeight]
    simp only [qX6_agreeOnWeight_0, qX6_agreeOnWeight_1, qX6_agreeOnWeight_2, qX6_agreeOnWeight_3, qX6_agreeOnWeight_5, qX6_agreeOnWeight_6, qX6_agreeOnWeight_9, qX6_agreeOnWeight_12, qX6_agreeOnWeight_15, qX6_agreeOnWeight_16, qX6_agreeOnWeight_17, qX6_agreeOnWeight_20, qX6_agreeOnWeight_23, qX6_agreeOnWeight_24, qX6_agreeOnWeight_25, qX6_agreeOnWeight_28, qX6_agreeOnWeight_31, qX6_agreeOnWeight_32, qX6_agreeOnWeight_35, qX6_agreeOnWeight_36, qX6_agreeOnWeight_39, qX6_agreeOnWeight_42, qX6_agreeOnWeight_43, qX6_agreeOnWeight_46, qX6_agreeOnWeight_47, qX6_agreeOnWeight_50, qX6_agreeOnWeight_51, qX6_agreeOnWeight_54, qX6_agreeOnWeight_57, qX6_agreeOnWeight_58, qX6_agreeOnWeight_61, qX6_agreeOnWeight_64, qX6_agreeOnWeight_65, qX6_agreeOnWeight_68, qX6_agreeOnWeight_71, qX6_agreeOnWeight_72, qX6_agreeOnWeight_74, qX6_agreeOnWeight_75, qX6_agreeOnWeight_78, qX6_agreeOnWeight_81, qX6_agreeOnWeight_84, qX6_agreeOnWeight_85, qX6_agreeOnWeight_86, qX6_agreeOnWeight_89, qX6_agreeOnWeight_92, qX6_agreeOnWeight_93, qX6_agreeOnWeight_94, qX6_agreeOnWeight_97, qX6_agreeOnWeight_100, qX6_agreeOnWeight_101, qX6_agreeOnWeight_104, qX6_agreeOnWeight_105, qX6_agreeOnWeight_107, qX6_agreeOnWeight_109, qX6_agreeOnWeight_111, qX6_agreeOnWeight_114, qX6_agreeOnWeight_115, qX6_agreeOnWeight_116, qX6_agreeOnWeight_117, qX6_agreeOnWeight_120, qX6_agreeOnWeight_121, qX6_agreeOnWeight_123, qX6_agreeOnWeight_126, qX6_agreeOnWeight_129, qX6_agreeOnWeight_132, qX6_agreeOnWeight_133]
    refine Eq.trans e ?_
    simp only [qX6_agreeOnWeight_0, qX6_agreeOnWeight_1, qX6_agreeOnWeight_2, qX6_agreeOnWeight_3, qX6_agreeOnWeight_5, qX6_agreeOnWeight_6, qX6_agreeOnWeight_9, qX6_agreeOnWeight_12, qX6_agreeOnWeight_15, qX6_agreeOnWeight_16, qX6_agreeOnWeight_17, qX6_agreeOnWeight_20, qX6_agreeOnWeight_23, qX6_agreeOnWeight_24, qX6_agreeOnWeight_25, qX6_agreeOnWeight_28, qX6_agreeOnWeight_31, qX6_agreeOnWeight_32, qX6_agreeOnWeight_35, qX6_agreeOnWeight_36, qX6_agreeOnWeight_39, qX6_agreeOnWeight_42, qX6_agreeOnWeight_43, qX6_agreeOnWeight_46, qX6_agreeOnWeight_47, qX6_agreeOnWeight_50, qX6_agreeOnWeight_51, qX6_agreeOnWeight_54, qX6_agreeOnWeight_57, qX6_agreeOnWeight_58, qX6_agreeOnWeight_61, qX6_agreeOnWeight_64, qX6_agreeOnWeight_65, qX6_agreeOnWeight_68, qX6_agreeOnWeight_71, qX6_agreeOnWeight_72, qX6_agreeOnWeight_74, qX6_agreeOnWeight_75, qX6_agreeOnWeight_78, qX6_agreeOnWeight_81, qX6_agreeOnWeight_84, qX6_agreeOnWeight_85, qX6_agreeOnWeight_86, qX6_agreeOnWeight_89, qX6_agreeOnWeight_92, qX6_agreeOnWeight_93, qX6_agreeOnWeight_94, qX6_agreeOnWeight_97, qX6_agreeOnWeight_100, qX6_agreeOnWeight_101, qX6_agreeOnWeight_104, qX6_agreeOnWeight_105, qX6_agreeOnWeight_107, qX6_agreeOnWeight_109, qX6_agreeOnWeight_111, qX6_agreeOnWeight_114, qX6_agreeOnWeight_115, qX6_agreeOnWeight_116, qX6_agreeOnWeight_117, qX6_agreeOnWeight_120, qX6_agreeOnWeight_121, qX6_agreeOnWeight_123, qX6_agreeOnWeight_126, qX6_agreeOnWeight_129, qX6_agreeOnWeight_132, qX6_agreeOnWeight_133, f0, Option.toList, List.cons_append, List.nil_append]
    rfl
  by_cases hok : ∀ i, i < n → bt x i = true → hmF x (hvF σ 18) n - σ.1 15 i ≤ 9
  · obtain ⟨τ', i1, i2, i3⟩ := agree_2 hn hc hok n 0 τ (by omega) t1 t2
    exact ⟨τ', i1, Or.inl ⟨hok, i2, fun d P => (go d P).trans (i3 d P .null)⟩⟩
  · have hno : ∃ i, i < n ∧ bt x i = true ∧ ¬ hmF x (hvF σ 18) n - σ.1 15 i ≤ 9 := Classical.byContradiction fun q => hok fun i h1 h2 => Classical.byContradiction fun h3 => q ⟨i, h1, h2, h3⟩
    obtain ⟨i, y1, y2, y3⟩ := hno
    obtain ⟨τ', i1, i3⟩ := agree_no (H := hmF x (hvF σ 18) n) hn hc n 0 τ (by omega) ⟨i, by omega, y1, y2, y3⟩ t1
    exact ⟨τ', i1, Or.inr ⟨⟨i, y1, y2, y3⟩, fun d P => (go d P).trans (i3 d P .null)⟩⟩
