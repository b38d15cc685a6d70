/-! THE TEXT: the reference's word, numbers on both sides -/
theorem stl_1 (μ : mm_M) (k j : Nat) (x : Int64) : (mm_stl μ k j x).1 = μ.1 := rfl
theorem stl_2 (μ : mm_M) (k j : Nat) (x : Int64) : (mm_stl μ k j x).2 k j = x := by simp [mm_stl, va_up]
theorem TXM.fr {μ ν : mm_M} {B : Nat → Nat} {T : Nat} (h : TXM μ B T) (h13 : ν.1 0 13 = μ.1 0 13) (h8 : ν.1 8 = μ.1 8) : TXM ν B T := ⟨h.1, by rw [h13]; exact h.2.1, fun k hk => by rw [h8]; exact h.2.2 k hk⟩
theorem sdN_s (B : Nat → Nat) (a k : Nat) : sdN B a (k + 1) = if 1000000000000 < sdN B a k then 2000000000000 else 27 * sdN B a k + B (a + k) - 96 := rfl
section NB
variable {σ μ : mm_M} {B : Nat → Nat} {T : Nat}
theorem readWord_loop {a1 : Value} {a : Nat} : ∀ (j p : Nat) (ν : mm_M), j + p = T → a ≤ p → TXM ν B T → ν.1 0 17 = nI p → ν.2 0 16 = lN (sdN B a (p - a)) → (∀ i, a ≤ i → i < p → isL B i = true) → ∃ ν' : mm_M, (∀ k, k ≠ 0 → ν'.1 k = ν.1 k) ∧ (∀ q, q ≠ 17 → ν'.1 0 q = ν.1 0 q) ∧ ν'.1 0 17 = nI (enF_ (isL B) T p) ∧ ν'.2 0 16 = lN (sdN B a (enF_ (isL B) T p - a)) ∧ ∀ (d : Nat) (P : mm_O), mm_at shM (d + 1) 90 [] P 18 [.ref 0, a1] [] ν = P none ν' := by
  intro j
  induction j with
  | zero =>
    intro p ν hp hap h h17 hs hL
    have hp : p = T := by omega
    subst hp
    rw [en_end (Nat.le_refl _)]
    refine ⟨ν, fun _ _ => rfl, fun _ _ => rfl, h17, hs, fun d P => ?_⟩
    rw [qX7_readWord_18]
    simp only [qX7_readWord_0, qX7_readWord_1, qX7_readWord_4, qX7_readWord_5, qX7_readWord_6, qX7_readWord_7, qX7_readWord_10, qX7_readWord_11, qX7_readWord_12, qX7_readWord_15, qX7_readWord_19, qX7_readWord_22, qX7_readWord_23, qX7_readWord_26, qX7_readWord_29, qX7_readWord_30, qX7_readWord_33, qX7_readWord_34, qX7_readWord_37, qX7_readWord_38, qX7_readWord_39, qX7_readWord_42, qX7_readWord_45, qX7_readWord_48, qX7_readWord_51, qX7_readWord_52, qX7_readWord_53, qX7_readWord_56, qX7_readWord_59, qX7_readWord_60, qX7_readWord_63, qX7_readWord_66, qX7_readWord_69, qX7_readWord_72, qX7_readWord_73, qX7_readWord_76, qX7_readWord_77, qX7_readWord_78, qX7_readWord_81, qX7_readWord_82, qX7_readWord_85, qX7_readWord_86, qX7_readWord_87, qX7_readWord_88, qX7_readWord_91, qX7_readWord_92, qX7_readWord_95, qX7_readWord_96, qX7_readWord_97, qX7_readWord_100, qX7_readWord_101, qX7_readWord_102, qX7_readWord_105, qX7_readWord_108, h17, h.2.1, show nI p ≤ nI p from Int32.le_refl _, if_true]
  | succ j ih =>
    intro p ν hp hap h h17 hs hL
    have hlt : p < T := by omega
    have h400 := h.1
    have q1 : ¬ nI T ≤ nI p := nI_ge hlt (by omega)
    have hB := h.2.2 p hlt
    have v1 : vp_in (nI p) 400 := vp_in_nI (by omega) (by decide)
    have v2 : (nI p).toNatClampNeg = p := nI_clamp (by omega)
    have hl : (97 : Int64) ≤ (nI (B p)).toInt64 ∧ (nI (B p)).toInt64 ≤ 122 ↔ 97 ≤ B p ∧ B p ≤ 122 := by
      rw [nI_l (by omega), show (97 : Int64) = lN 97 from rfl, show (122 : Int64) = lN 122 from rfl, lN_le (by decide) (by omega), lN_le (by omega) (by decide)]
    by_cases hb : 97 ≤ B p ∧ B p ≤ 122
    · rw [en_go hlt (decide_eq_true hb)]
      have hsb : sdN B a (p - a) < 2 ^ 45 := sd_b (fun i hi => (h.2.2 (a + i) (by omega)).1)
      have hpa : a + (p - a) = p := by omega
      have hp1 : p + 1 - a = p - a + 1 := by omega
      have hc : (lg_cmp (lN (sdN B a (p - a))) 1000000000000 ≤ 0) ↔ ¬ 1000000000000 < sdN B a (p - a) := by
        rw [← Int32.not_lt, cmp_gt, show (1000000000000 : Int64) = lN 1000000000000 from rfl, lN_lt2 (by decide) (by omega)]
      have hnew : (if 1000000000000 < sdN B a (p - a) then (2000000000000 : Int64) else 27 * lN (sdN B a (p - a)) + (nI (B p)).toInt64 - 96) = lN (sdN B a (p + 1 - a)) := by
        rw [hp1, sdN_s, hpa]
        by_cases hc : 1000000000000 < sdN B a (p - a)
        · rw [if_pos hc, if_pos hc]; rfl
        · rw [if_neg hc, if_neg hc, nI_l (by omega), show (27 : Int64) = lN 27 from rfl, show (96 : Int64) = lN 96 from rfl, lN_mul, lN_add, lN_sub2 (by omega)]
      obtain ⟨ν', i1, i2, i3, i4, i5⟩ := ih (p + 1) (mm_sti (mm_stl ν 0 16 (lN (sdN B a (p + 1 - a)))) 0 17 (nI (p + 1))) (by omega) (by omega) (h.fr (by rw [mm_sti_set, mm_set_same, upd_1, if_neg (by decide), stl_1]) (by rw [mm_sti_set, mm_set_ne _ _ (by decide), stl_1])) (by rw [mm_sti_set, mm_set_same, upd_1, if_pos rfl]) (by rw [mm_sti_set, mm_set_2, stl_2]) (fun i h1 h2 => by
        by_cases e : i = p
        · rw [e]; exact decide_eq_true hb
        · exact hL i h1 (by omega))
      refine ⟨ν', fun k hk => by rw [i1 k hk, mm_sti_set, mm_set_ne _ _ hk, stl_1], fun q hq => by rw [i2 q hq, mm_sti_set, mm_set_same, upd_1, if_neg hq, stl_1], i3, i4, fun d P => ?_⟩
      rw [← i5 d P, qX7_readWord_18]
      simp only [qX7_readWord_0, qX7_readWord_1, qX7_readWord_4, qX7_readWord_5, qX7_readWord_6, qX7_readWord_7, qX7_readWord_10, qX7_readWord_11, qX7_readWord_12, qX7_readWord_15, qX7_readWord_19, qX7_readWord_22, qX7_readWord_23, qX7_readWord_26, qX7_readWord_29, qX7_readWord_30, qX7_readWord_33, qX7_readWord_34, qX7_readWord_37, qX7_readWord_38, qX7_readWord_39, qX7_readWord_42, qX7_readWord_45, qX7_readWord_48, qX7_readWord_51, qX7_readWord_52, qX7_readWord_53, qX7_readWord_56, qX7_readWord_59, qX7_readWord_60, qX7_readWord_63, qX7_readWord_66, qX7_readWord_69, qX7_readWord_72, qX7_readWord_73, qX7_readWord_76, qX7_readWord_77, qX7_readWord_78, qX7_readWord_81, qX7_readWord_82, qX7_readWord_85, qX7_readWord_86, qX7_readWord_87, qX7_readWord_88, qX7_readWord_91, qX7_readWord_92, qX7_readWord_95, qX7_readWord_96, qX7_readWord_97, qX7_readWord_100, qX7_readWord_101, qX7_readWord_102, qX7_readWord_105, qX7_readWord_108, h17, h.2.1, q1, if_false, v1, v2, true_and, hB.2, s_Min, hl.mpr hb, and_self, if_true, show ¬ (1 : Int32) = 0 by decide, hs, Option.toList, List.cons_append, List.nil_append]
      by_cases hcc : 1000000000000 < sdN B a (p - a)
      · rw [if_pos hcc] at hnew
        rw [if_neg (fun q => (hc.mp q) hcc), hnew]
        simp only [qX7_readWord_0, qX7_readWord_1, qX7_readWord_4, qX7_readWord_5, qX7_readWord_6, qX7_readWord_7, qX7_readWord_10, qX7_readWord_11, qX7_readWord_12, qX7_readWord_15, qX7_readWord_19, qX7_readWord_22, qX7_readWord_23, qX7_readWord_26, qX7_readWord_29, qX7_readWord_30, qX7_readWord_33, qX7_readWord_34, qX7_readWord_37, qX7_readWord_38, qX7_readWord_39, qX7_readWord_42, qX7_readWord_45, qX7_readWord_48, qX7_readWord_51, qX7_readWord_52, qX7_readWord_53, qX7_readWord_56, qX7_readWord_59, qX7_readWord_60, qX7_readWord_63, qX7_readWord_66, qX7_readWord_69, qX7_readWord_72, qX7_readWord_73, qX7_readWord_76, qX7_readWord_77, qX7_readWord_78, qX7_readWord_81, qX7_readWord_82, qX7_readWord_85, qX7_readWord_86, qX7_readWord_87, qX7_readWord_88, qX7_readWord_91, qX7_readWord_92, qX7_readWord_95, qX7_readWord_96, qX7_readWord_97, qX7_readWord_100, qX7_readWord_101, qX7_readWord_102, qX7_readWord_105, qX7_readWord_108, stl_1, h17, nI_1]
      · rw [if_neg hcc] at hnew
        rw [if_pos (hc.mpr hcc), hnew]
        simp only [qX7_readWord_0, qX7_readWord_1, qX7_readWord_4, qX7_readWord_5, qX7_readWord_6, qX7_readWord_7, qX7_readWord_10, qX7_readWord_11, qX7_readWord_12, qX7_readWord_15, qX7_readWord_19, qX7_readWord_22, qX7_readWord_23, qX7_readWord_26, qX7_readWord_29, qX7_readWord_30, qX7_readWord_33, qX7_readWord_34, qX7_readWord_37, qX7_readWord_38, qX7_readWord_39, qX7_readWord_42, qX7_readWord_45, qX7_readWord_48, qX7_readWord_51, qX7_readWord_52, qX7_readWord_53, qX7_readWord_56, qX7_readWord_59, qX7_readWord_60, qX7_readWord_63, qX7_readWord_66, qX7_readWord_69, qX7_readWord_72, qX7_readWord_73, qX7_readWord_76, qX7_readWord_77, qX7_readWord_78, qX7_readWord_81, qX7_readWord_82, qX7_readWord_85, qX7_readWord_86, qX7_readWord_87, qX7_readWord_88, qX7_readWord_91, qX7_readWord_92, qX7_readWord_95, qX7_readWord_96, qX7_readWord_97, qX7_readWord_100, qX7_readWord_101, qX7_readWord_102, qX7_readWord_105, qX7_readWord_108, stl_1, h17, nI_1]
    · rw [en_no (decide_eq_false hb)]
      refine ⟨ν, fun _ _ => rfl, fun _ _ => rfl, h17, hs, fun d P => ?_⟩
      have hl' : ¬ ((97 : Int64) ≤ (nI (B p)).toInt64 ∧ (nI (B p)).toInt64 ≤ 122) := fun q => hb (hl.mp q)
      rw [qX7_readWord_18]
      simp only [qX7_readWord_0, qX7_readWord_1, qX7_readWord_4, qX7_readWord_5, qX7_readWord_6, qX7_readWord_7, qX7_readWord_10, qX7_readWord_11, qX7_readWord_12, qX7_readWord_15, qX7_readWord_19, qX7_readWord_22, qX7_readWord_23, qX7_readWord_26, qX7_readWord_29, qX7_readWord_30, qX7_readWord_33, qX7_readWord_34, qX7_readWord_37, qX7_readWord_38, qX7_readWord_39, qX7_readWord_42, qX7_readWord_45, qX7_readWord_48, qX7_readWord_51, qX7_readWord_52, qX7_readWord_53, qX7_readWord_56, qX7_readWord_59, qX7_readWord_60, qX7_readWord_63, qX7_readWord_66, qX7_readWord_69, qX7_readWord_72, qX7_readWord_73, qX7_readWord_76, qX7_readWord_77, qX7_readWord_78, qX7_readWord_81, qX7_readWord_82, qX7_readWord_85, qX7_readWord_86, qX7_readWord_87, qX7_readWord_88, qX7_readWord_91, qX7_readWord_92, qX7_readWord_95, qX7_readWord_96, qX7_readWord_97, qX7_readWord_100, qX7_readWord_101, qX7_readWord_102, qX7_readWord_105, qX7_readWord_108, h17, h.2.1, q1, if_false, v1, v2, true_and, hB.2, s_Min, hl', if_true, Option.toList, List.cons_append, List.nil_append]
theorem s_readWord (h : TXM μ B T) {p : Nat} (hp : p ≤ T) (h15 : μ.1 0 15 = nI p) : ∃ ν' : mm_M, (∀ k, k ≠ 0 → ν'.1 k = μ.1 k) ∧ (∀ q, q ≠ 15 → q ≠ 17 → ν'.1 0 q = μ.1 0 q) ∧ ν'.1 0 15 = nI (enF_ (isB B) T p) ∧ ν'.1 0 17 = nI (enF_ (isL B) T (enF_ (isB B) T p)) ∧ ν'.2 0 16 = lN (sdN B (enF_ (isB B) T p) (enF_ (isL B) T (enF_ (isB B) T p) - enF_ (isB B) T p)) ∧ ∀ (d : Nat) (P : mm_O), mm_run shM (d + 2) 90 [.ref 0] μ P = P none ν' := by
  have hb := en_b (c := isB B) hp
  have f1 := fun (d : Nat) (P : mm_O) => s_here (d := d) (P := P) hp h h15
  generalize enF_ (isB B) T p = a at hb f1
  generalize hμ1 : mm_set μ 0 (upd (μ.1 0) 15 (nI a)) = μ1 at f1
  have e0 : ∀ k, k ≠ 0 → μ1.1 k = μ.1 k := fun k hk => by rw [← hμ1, mm_set_ne _ _ hk]
  have e1 : ∀ q, q ≠ 15 → μ1.1 0 q = μ.1 0 q := fun q hq => by rw [← hμ1, mm_set_same, upd_1, if_neg hq]
  have e2 : μ1.1 0 15 = nI a := by rw [← hμ1, mm_set_same, upd_1, if_pos rfl]
  obtain ⟨ν', i1, i2, i3, i4, i5⟩ := readWord_loop (a1 := .int (heI B T a)) (a := a) (T - a) a (mm_sti (mm_stl μ1 0 16 0) 0 17 (nI a)) (by omega) (Nat.le_refl _) (h.fr (by rw [mm_sti_set, mm_set_same, upd_1, if_neg (by decide), stl_1, e1 13 (by decide)]) (by rw [mm_sti_set, mm_set_ne _ _ (by decide), stl_1, e0 8 (by decide)])) (by rw [mm_sti_set, mm_set_same, upd_1, if_pos rfl]) (by rw [mm_sti_set, mm_set_2, stl_2, Nat.sub_self]; rfl) (fun i h1 h2 => by omega)
  refine ⟨ν', fun k hk => by rw [i1 k hk, mm_sti_set, mm_set_ne _ _ hk, stl_1]; exact e0 k hk, fun q h1 h2 => by rw [i2 q h2, mm_sti_set, mm_set_same, upd_1, if_neg h2, stl_1]; exact e1 q h1, by rw [i2 15 (by decide), mm_sti_set, mm_set_same, upd_1, if_neg (by decide), stl_1]; exact e2, i3, i4, fun d P => ?_⟩
  rw [← i5 d P, in_X7_readWord]
  simp only [qX7_readWord_0, qX7_readWord_1, qX7_readWord_4, qX7_readWord_5, qX7_readWord_6, qX7_readWord_7, qX7_readWord_10, qX7_readWord_11, qX7_readWord_12, qX7_readWord_15, qX7_readWord_19, qX7_readWord_22, qX7_readWord_23, qX7_readWord_26, qX7_readWord_29, qX7_readWord_30, qX7_readWord_33, qX7_readWord_34, qX7_readWord_37, qX7_readWord_38, qX7_readWord_39, qX7_readWord_42, qX7_readWord_45, qX7_readWord_48, qX7_readWord_51, qX7_readWord_52, qX7_readWord_53, qX7_readWord_56, qX7_readWord_59, qX7_readWord_60, qX7_readWord_63, qX7_readWord_66, qX7_readWord_69, qX7_readWord_72, qX7_readWord_73, qX7_readWord_76, qX7_readWord_77, qX7_readWord_78, qX7_readWord_81, qX7_readWord_82, qX7_readWord_85, qX7_readWord_86, qX7_readWord_87, qX7_readWord_88, qX7_readWord_91, qX7_readWord_92, qX7_readWord_95, qX7_readWord_96, qX7_readWord_97, qX7_readWord_100, qX7_readWord_101, qX7_readWord_102, qX7_readWord_105, qX7_readWord_108, f1, stl_1, e2, Option.toList, List.cons_append, List.nil_append]
/-- the value of the first figures -/
def vlN (B : Nat → Nat) (a : Nat) : Nat → Nat
  | 0 => 0
  | k + 1 => vlN B a k * 10 + (B (a + k) - 48)
theorem vlN_b {B : Nat → Nat} {a : Nat} : ∀ {k : Nat}, (∀ i, i < k → B (a + i) ≤ 57) → vlN B a k < 10 ^ k
  | 0, _ => Nat.lt_succ_self 0
  | k + 1, h => by
    have := vlN_b (k := k) (fun i hi => h i (by omega))
    have := h k (by omega)
    unfold vlN
    rw [Nat.pow_succ]
    omega
theorem number_loop {least most : Int32} {a5 : Value} {a : Nat} : ∀ (j p : Nat) (σ : mm_M), j + p = T → a ≤ p → TXC σ B T → σ.1 1 4 = nI p → (∀ i, a ≤ i → i < p → isF B i = true) → ∀ (d : Nat) (P : mm_O), mm_at shC (d + 2) 8 [] P 12 [.ref 1, .int least, .int most, .int (nI a), .int (nI (vlN B a (min (p - a) 3))), a5] [] σ = mm_at shC (d + 2) 8 [] P 76 [.ref 1, .int least, .int most, .int (nI a), .int (nI (vlN B a (min (enF_ (isF B) T p - a) 3))), a5] [] (mm_set σ 1 (upd (σ.1 1) 4 (nI (enF_ (isF B) T p)))) := by
  intro j
  induction j with
  | zero =>
    intro p σ hp hap h h4 hL d P
    have hp : p = T := by omega
    subst hp
    rw [en_end (Nat.le_refl _), ← h4, upd_self, mm_set_self, qX1_readNumber_12]
    simp only [qX1_readNumber_0, qX1_readNumber_1, qX1_readNumber_4, qX1_readNumber_5, qX1_readNumber_8, qX1_readNumber_9, qX1_readNumber_10, qX1_readNumber_13, qX1_readNumber_16, qX1_readNumber_17, qX1_readNumber_20, qX1_readNumber_23, qX1_readNumber_24, qX1_readNumber_26, qX1_readNumber_28, qX1_readNumber_31, qX1_readNumber_34, qX1_readNumber_35, qX1_readNumber_38, qX1_readNumber_39, qX1_readNumber_40, qX1_readNumber_41, qX1_readNumber_44, qX1_readNumber_46, qX1_readNumber_48, qX1_readNumber_49, qX1_readNumber_50, qX1_readNumber_51, qX1_readNumber_54, qX1_readNumber_57, qX1_readNumber_58, qX1_readNumber_60, qX1_readNumber_61, qX1_readNumber_63, qX1_readNumber_64, qX1_readNumber_65, qX1_readNumber_68, qX1_readNumber_69, qX1_readNumber_70, qX1_readNumber_73, qX1_readNumber_77, qX1_readNumber_80, qX1_readNumber_81, qX1_readNumber_82, qX1_readNumber_84, qX1_readNumber_86, qX1_readNumber_89, qX1_readNumber_90, qX1_readNumber_91, qX1_readNumber_92, qX1_readNumber_95, qX1_readNumber_98, qX1_readNumber_100, qX1_readNumber_101, qX1_readNumber_104, qX1_readNumber_106, qX1_readNumber_107, qX1_readNumber_110, qX1_readNumber_112, qX1_readNumber_113, qX1_readNumber_116, qX1_readNumber_117, qX1_readNumber_118, qX1_readNumber_119, qX1_readNumber_122, qX1_readNumber_124, h4, h.2.1, show nI p ≤ nI p from Int32.le_refl _, if_true]
  | succ j ih =>
    intro p σ hp hap h h4 hL d P
    have hlt : p < T := by omega
    have h400 := h.1
    have q1 : ¬ nI T ≤ nI p := nI_ge hlt (by omega)
    have hB := (h.2.2 p hlt).1
    have bt : ∀ (d : Nat) (P : mm_O), mm_run shC (d + 2) 13 [.ref 1, .int 48, .int 57] σ P = P (some (.int (if 48 ≤ B p ∧ B p ≤ 57 then 1 else 0))) σ := fun d P => s_isBetween h hlt h4 (a := 48) (b := 57) (by decide) (by decide) d P
    rw [qX1_readNumber_12]
    by_cases hb : 48 ≤ B p ∧ B p ≤ 57
    · rw [en_go hlt (decide_eq_true hb)]
      have hsb : sbI (B p) = nI (B p) := (sb_all _ hB).1 (by omega)
      have e := ih (p + 1) (mm_set σ 1 (upd (σ.1 1) 4 (nI (p + 1)))) (by omega) (by omega) (h.pos _) (by rw [mm_set_same, upd_1, if_pos rfl]) (fun i h1 h2 => by
        by_cases e : i = p
        · rw [e]; exact decide_eq_true hb
        · exact hL i h1 (by omega)) d P
      rw [mm_set_set, mm_set_same, upd_upd] at e
      rw [← e]
      by_cases h3 : p - a < 3
      · have q3 : ¬ (3 : Int32) ≤ nI p - nI a := by rw [nI_sub hap]; exact (show ¬ nI 3 ≤ nI (p - a) from nI_ge h3 (by decide))
        have hv : vlN B a (min (p + 1 - a) 3) = vlN B a (min (p - a) 3) * 10 + B p - 48 := by
          rw [show min (p + 1 - a) 3 = p - a + 1 by omega, show min (p - a) 3 = p - a by omega]
          show vlN B a (p - a) * 10 + (B (a + (p - a)) - 48) = _
          rw [show a + (p - a) = p by omega]
          omega
        have ev : nI (vlN B a (min (p - a) 3)) * 10 + nI (B p) - 48 = nI (vlN B a (min (p + 1 - a) 3)) := by
          rw [hv, show (10 : Int32) = nI 10 from rfl, show nI (vlN B a (min (p - a) 3)) * nI 10 = nI (vlN B a (min (p - a) 3) * 10) from (Int32.ofNat_mul _ _).symm, nI_add, show (48 : Int32) = nI 48 from rfl, nI_sub (by omega)]
        simp only [qX1_readNumber_0, qX1_readNumber_1, qX1_readNumber_4, qX1_readNumber_5, qX1_readNumber_8, qX1_readNumber_9, qX1_readNumber_10, qX1_readNumber_13, qX1_readNumber_16, qX1_readNumber_17, qX1_readNumber_20, qX1_readNumber_23, qX1_readNumber_24, qX1_readNumber_26, qX1_readNumber_28, qX1_readNumber_31, qX1_readNumber_34, qX1_readNumber_35, qX1_readNumber_38, qX1_readNumber_39, qX1_readNumber_40, qX1_readNumber_41, qX1_readNumber_44, qX1_readNumber_46, qX1_readNumber_48, qX1_readNumber_49, qX1_readNumber_50, qX1_readNumber_51, qX1_readNumber_54, qX1_readNumber_57, qX1_readNumber_58, qX1_readNumber_60, qX1_readNumber_61, qX1_readNumber_63, qX1_readNumber_64, qX1_readNumber_65, qX1_readNumber_68, qX1_readNumber_69, qX1_readNumber_70, qX1_readNumber_73, qX1_readNumber_77, qX1_readNumber_80, qX1_readNumber_81, qX1_readNumber_82, qX1_readNumber_84, qX1_readNumber_86, qX1_readNumber_89, qX1_readNumber_90, qX1_readNumber_91, qX1_readNumber_92, qX1_readNumber_95, qX1_readNumber_98, qX1_readNumber_100, qX1_readNumber_101, qX1_readNumber_104, qX1_readNumber_106, qX1_readNumber_107, qX1_readNumber_110, qX1_readNumber_112, qX1_readNumber_113, qX1_readNumber_116, qX1_readNumber_117, qX1_readNumber_118, qX1_readNumber_119, qX1_readNumber_122, qX1_readNumber_124, h4, h.2.1, q1, if_false, bt, hb, and_self, if_true, show ¬ (1 : Int32) = 0 by decide, q3, s_byteAt h hlt, hsb, ev, nI_1, mm_sti_set, Option.toList, List.cons_append, List.nil_append]
      · have q3 : (3 : Int32) ≤ nI p - nI a := by rw [nI_sub hap]; exact (show nI 3 ≤ nI (p - a) from nI_le (by omega) (by omega))
        rw [show min (p - a) 3 = 3 by omega, show min (p + 1 - a) 3 = 3 by omega]
        simp only [qX1_readNumber_0, qX1_readNumber_1, qX1_readNumber_4, qX1_readNumber_5, qX1_readNumber_8, qX1_readNumber_9, qX1_readNumber_10, qX1_readNumber_13, qX1_readNumber_16, qX1_readNumber_17, qX1_readNumber_20, qX1_readNumber_23, qX1_readNumber_24, qX1_readNumber_26, qX1_readNumber_28, qX1_readNumber_31, qX1_readNumber_34, qX1_readNumber_35, qX1_readNumber_38, qX1_readNumber_39, qX1_readNumber_40, qX1_readNumber_41, qX1_readNumber_44, qX1_readNumber_46, qX1_readNumber_48, qX1_readNumber_49, qX1_readNumber_50, qX1_readNumber_51, qX1_readNumber_54, qX1_readNumber_57, qX1_readNumber_58, qX1_readNumber_60, qX1_readNumber_61, qX1_readNumber_63, qX1_readNumber_64, qX1_readNumber_65, qX1_readNumber_68, qX1_readNumber_69, qX1_readNumber_70, qX1_readNumber_73, qX1_readNumber_77, qX1_readNumber_80, qX1_readNumber_81, qX1_readNumber_82, qX1_readNumber_84, qX1_readNumber_86, qX1_readNumber_89, qX1_readNumber_90, qX1_readNumber_91, qX1_readNumber_92, qX1_readNumber_95, qX1_readNumber_98, qX1_readNumber_100, qX1_readNumber_101, qX1_readNumber_104, qX1_readNumber_106, qX1_readNumber_107, qX1_readNumber_110, qX1_readNumber_112, qX1_readNumber_113, qX1_readNumber_116, qX1_readNumber_117, qX1_readNumber_118, qX1_readNumber_119, qX1_readNumber_122, qX1_readNumber_124, h4, h.2.1, q1, if_false, bt, hb, and_self, if_true, show ¬ (1 : Int32) = 0 by decide, q3, nI_1, mm_sti_set, Option.toList, List.cons_append, List.nil_append]
    · rw [en_no (decide_eq_false hb), ← h4, upd_self, mm_set_self]
      simp only [qX1_readNumber_0, qX1_readNumber_1, qX1_readNumber_4, qX1_readNumber_5, qX1_readNumber_8, qX1_readNumber_9, qX1_readNumber_10, qX1_readNumber_13, qX1_readNumber_16, qX1_readNumber_17, qX1_readNumber_20, qX1_readNumber_23, qX1_readNumber_24, qX1_readNumber_26, qX1_readNumber_28, qX1_readNumber_31, qX1_readNumber_34, qX1_readNumber_35, qX1_readNumber_38, qX1_readNumber_39, qX1_readNumber_40, qX1_readNumber_41, qX1_readNumber_44, qX1_readNumber_46, qX1_readNumber_48, qX1_readNumber_49, qX1_readNumber_50, qX1_readNumber_51, qX1_readNumber_54, qX1_readNumber_57, qX1_readNumber_58, qX1_readNumber_60, qX1_readNumber_61, qX1_readNumber_63, qX1_readNumber_64, qX1_readNumber_65, qX1_readNumber_68, qX1_readNumber_69, qX1_readNumber_70, qX1_readNumber_73, qX1_readNumber_77, qX1_readNumber_80, qX1_readNumber_81, qX1_readNumber_82, qX1_readNumber_84, qX1_readNumber_86, qX1_readNumber_89, qX1_readNumber_90, qX1_readNumber_91, qX1_readNumber_92, qX1_readNumber_95, qX1_readNumber_98, qX1_readNumber_100, qX1_readNumber_101, qX1_readNumber_104, qX1_readNumber_106, qX1_readNumber_107, qX1_readNumber_110, qX1_readNumber_112, qX1_readNumber_113, qX1_readNumber_116, qX1_readNumber_117, qX1_readNumber_118, qX1_readNumber_119, qX1_readNumber_122, qX1_readNumber_124, h4, h.2.1, q1, if_false, bt, hb, if_true, Option.toList, List.cons_append, List.nil_append]
end NB
