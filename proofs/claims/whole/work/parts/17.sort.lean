/-! THE ROUTE: sort -/
def pkI (o : Option Nat) : Int32 := match o with
  | none => -1
  | some q => nI q
def phI (hv : Nat → Int32) (o : Option Nat) : Int32 := match o with
  | none => 0
  | some q => hv q
theorem nI_m1 {q : Nat} (h : q < 2 ^ 31) : ¬ nI q = -1 := by
  intro e
  have h2 := nI_toInt h
  rw [e] at h2
  have h3 : (-1 : Int32).toInt = -1 := by decide
  omega
theorem pick_tk {hv : Nat → Int32} {tk : Nat → Bool} {b : Bool} {l : Nat} (h : tk l = true) : pick hv tk b (l + 1) = pick hv tk b l := by
  rw [pick, if_pos h]
theorem pick_n {hv : Nat → Int32} {tk : Nat → Bool} {b : Bool} {l : Nat} (h : tk l = false) (hp : pick hv tk b l = none) : pick hv tk b (l + 1) = some l := by
  rw [pick, if_neg (by simp [h]), hp]
theorem pick_s {hv : Nat → Int32} {tk : Nat → Bool} {b : Bool} {l q : Nat} (h : tk l = false) (hp : pick hv tk b l = some q) : pick hv tk b (l + 1) = if betF hv b q l = true then some l else some q := by
  rw [pick, if_neg (by simp [h]), hp]
def bI (b : Bool) : Int32 := if b then 1 else 0
theorem s_sort_in_19 {d n k : Nat} {P : mm_O} {σ : mm_M} {law x : Int32} {tk : Nat → Bool} {bb : Bool} {R : Prop} (hn : n ≤ 7) (hx : ∀ l, l < 7 → bt x l = tk l) (hR : ∀ c9, mm_at shC (d + 1) 17 [] P 111 [.ref 19, .int (nI n), .int law, .int x, .int (nI k), .int (bI bb), .int (pkI (pick (σ.1 20) tk bb n)), .int (phI (σ.1 20) (pick (σ.1 20) tk bb n)), .int (nI n), c9] [] σ = R) : ∀ (j l : Nat) (c9 : Value), j + l = n → mm_at shC (d + 1) 17 [] P 43 [.ref 19, .int (nI n), .int law, .int x, .int (nI k), .int (bI bb), .int (pkI (pick (σ.1 20) tk bb l)), .int (phI (σ.1 20) (pick (σ.1 20) tk bb l)), .int (nI l), c9] [] σ = R := by
  intro j
  induction j with
  | zero =>
    intro l c9 hl
    have hl : l = n := by omega
    subst hl
    rw [← hR c9]
    simp [qX2_sort_0, qX2_sort_1, qX2_sort_2, qX2_sort_3, qX2_sort_7, qX2_sort_8, qX2_sort_11, qX2_sort_12, qX2_sort_15, qX2_sort_16, qX2_sort_17, qX2_sort_20, qX2_sort_22, qX2_sort_23, qX2_sort_24, qX2_sort_27, qX2_sort_28, qX2_sort_31, qX2_sort_32, qX2_sort_34, qX2_sort_35, qX2_sort_37, qX2_sort_38, qX2_sort_40, qX2_sort_41, qX2_sort_43, qX2_sort_45, qX2_sort_46, qX2_sort_49, qX2_sort_50, qX2_sort_52, qX2_sort_55, qX2_sort_58, qX2_sort_59a, qX2_sort_59b, qX2_sort_62, qX2_sort_64, qX2_sort_67, qX2_sort_69, qX2_sort_71, qX2_sort_72, qX2_sort_75, qX2_sort_77, qX2_sort_80, qX2_sort_82, qX2_sort_84, qX2_sort_87, qX2_sort_90, qX2_sort_92, qX2_sort_94, qX2_sort_97, qX2_sort_99, qX2_sort_101, qX2_sort_103, qX2_sort_105, qX2_sort_108, qX2_sort_111, qX2_sort_112a, qX2_sort_112b, qX2_sort_115, qX2_sort_117, qX2_sort_119, qX2_sort_122, qX2_sort_123, qX2_sort_124, qX2_sort_126, qX2_sort_127, qX2_sort_128, qX2_sort_129, qX2_sort_132, qX2_sort_135]
  | succ j ih =>
    intro l c9 hl
    have h1 : ¬ nI n ≤ nI l := nI_ge (by omega) (by omega)
    have hb := m_bit (x := x) (l := l) (by omega)
    rw [hx l (by omega)] at hb
    have h97 : atF (σ.1 20) 7 (nI l) = σ.1 20 l := atF_in _ (by omega) (by decide)
    rw [qX2_sort_43]
    cases ht : tk l with
    | true =>
      have hb : ¬ ((x >>> (nI l &&& 31)) &&& 1 = 0) := by rw [hb, ht]; decide
      simp only [qX2_sort_0, qX2_sort_1, qX2_sort_2, qX2_sort_3, qX2_sort_7, qX2_sort_8, qX2_sort_11, qX2_sort_12, qX2_sort_15, qX2_sort_16, qX2_sort_17, qX2_sort_20, qX2_sort_22, qX2_sort_23, qX2_sort_24, qX2_sort_27, qX2_sort_28, qX2_sort_31, qX2_sort_32, qX2_sort_34, qX2_sort_35, qX2_sort_37, qX2_sort_38, qX2_sort_40, qX2_sort_41, qX2_sort_45, qX2_sort_46, qX2_sort_49, qX2_sort_50, qX2_sort_52, qX2_sort_55, qX2_sort_58, qX2_sort_59a, qX2_sort_59b, qX2_sort_62, qX2_sort_64, qX2_sort_67, qX2_sort_69, qX2_sort_71, qX2_sort_72, qX2_sort_75, qX2_sort_77, qX2_sort_80, qX2_sort_82, qX2_sort_84, qX2_sort_87, qX2_sort_90, qX2_sort_92, qX2_sort_94, qX2_sort_97, qX2_sort_99, qX2_sort_101, qX2_sort_103, qX2_sort_105, qX2_sort_108, qX2_sort_112a, qX2_sort_112b, qX2_sort_115, qX2_sort_117, qX2_sort_119, qX2_sort_122, qX2_sort_123, qX2_sort_124, qX2_sort_126, qX2_sort_127, qX2_sort_128, qX2_sort_129, qX2_sort_132, qX2_sort_135, h1, s_isIn, hb, if_false, Option.toList, List.cons_append, List.nil_append, nI_1, show ¬ (1 : Int32) = 0 by decide]
      have e := ih (l + 1) c9 (by omega)
      rw [pick_tk ht] at e
      exact e
    | false =>
      have hb : ((x >>> (nI l &&& 31)) &&& 1 = 0) := by rw [hb, ht]
      cases hp : pick (σ.1 20) tk bb l with
      | none =>
        simp only [qX2_sort_0, qX2_sort_1, qX2_sort_2, qX2_sort_3, qX2_sort_7, qX2_sort_8, qX2_sort_11, qX2_sort_12, qX2_sort_15, qX2_sort_16, qX2_sort_17, qX2_sort_20, qX2_sort_22, qX2_sort_23, qX2_sort_24, qX2_sort_27, qX2_sort_28, qX2_sort_31, qX2_sort_32, qX2_sort_34, qX2_sort_35, qX2_sort_37, qX2_sort_38, qX2_sort_40, qX2_sort_41, qX2_sort_45, qX2_sort_46, qX2_sort_49, qX2_sort_50, qX2_sort_52, qX2_sort_55, qX2_sort_58, qX2_sort_59a, qX2_sort_59b, qX2_sort_62, qX2_sort_64, qX2_sort_67, qX2_sort_69, qX2_sort_71, qX2_sort_72, qX2_sort_75, qX2_sort_77, qX2_sort_80, qX2_sort_82, qX2_sort_84, qX2_sort_87, qX2_sort_90, qX2_sort_92, qX2_sort_94, qX2_sort_97, qX2_sort_99, qX2_sort_101, qX2_sort_103, qX2_sort_105, qX2_sort_108, qX2_sort_112a, qX2_sort_112b, qX2_sort_115, qX2_sort_117, qX2_sort_119, qX2_sort_122, qX2_sort_123, qX2_sort_124, qX2_sort_126, qX2_sort_127, qX2_sort_128, qX2_sort_129, qX2_sort_132, qX2_sort_135, h1, s_isIn, hb, if_false, if_true, Option.toList, List.cons_append, List.nil_append, nI_1, s_at_20, h97, pkI, phI]
        have e := ih (l + 1) (.int (σ.1 20 l)) (by omega)
        rw [pick_n ht hp] at e
        exact e
      | some q =>
        have hq := pick_some hp
        have h2 := nI_m1 (q := q) (by omega)
        have e := ih (l + 1) (.int (σ.1 20 l)) (by omega)
        rw [pick_s ht hp] at e
        cases bb with
        | true =>
          by_cases hc : σ.1 20 l ≤ σ.1 20 q
          · rw [if_neg (by simp [betF, Int32.not_lt.mpr hc])] at e
            simp only [qX2_sort_0, qX2_sort_1, qX2_sort_2, qX2_sort_3, qX2_sort_7, qX2_sort_8, qX2_sort_11, qX2_sort_12, qX2_sort_15, qX2_sort_16, qX2_sort_17, qX2_sort_20, qX2_sort_22, qX2_sort_23, qX2_sort_24, qX2_sort_27, qX2_sort_28, qX2_sort_31, qX2_sort_32, qX2_sort_34, qX2_sort_35, qX2_sort_37, qX2_sort_38, qX2_sort_40, qX2_sort_41, qX2_sort_45, qX2_sort_46, qX2_sort_49, qX2_sort_50, qX2_sort_52, qX2_sort_55, qX2_sort_58, qX2_sort_59a, qX2_sort_59b, qX2_sort_62, qX2_sort_64, qX2_sort_67, qX2_sort_69, qX2_sort_71, qX2_sort_72, qX2_sort_75, qX2_sort_77, qX2_sort_80, qX2_sort_82, qX2_sort_84, qX2_sort_87, qX2_sort_90, qX2_sort_92, qX2_sort_94, qX2_sort_97, qX2_sort_99, qX2_sort_101, qX2_sort_103, qX2_sort_105, qX2_sort_108, qX2_sort_112a, qX2_sort_112b, qX2_sort_115, qX2_sort_117, qX2_sort_119, qX2_sort_122, qX2_sort_123, qX2_sort_124, qX2_sort_126, qX2_sort_127, qX2_sort_128, qX2_sort_129, qX2_sort_132, qX2_sort_135, h1, s_isIn, hb, if_false, if_true, Option.toList, List.cons_append, List.nil_append, nI_1, s_at_20, h97, pkI, phI, h2, bI, hc, show ¬ (1 : Int32) = 0 by decide]
            exact e
          · rw [if_pos (by simp [betF, Int32.not_le.mp hc])] at e
            simp only [qX2_sort_0, qX2_sort_1, qX2_sort_2, qX2_sort_3, qX2_sort_7, qX2_sort_8, qX2_sort_11, qX2_sort_12, qX2_sort_15, qX2_sort_16, qX2_sort_17, qX2_sort_20, qX2_sort_22, qX2_sort_23, qX2_sort_24, qX2_sort_27, qX2_sort_28, qX2_sort_31, qX2_sort_32, qX2_sort_34, qX2_sort_35, qX2_sort_37, qX2_sort_38, qX2_sort_40, qX2_sort_41, qX2_sort_45, qX2_sort_46, qX2_sort_49, qX2_sort_50, qX2_sort_52, qX2_sort_55, qX2_sort_58, qX2_sort_59a, qX2_sort_59b, qX2_sort_62, qX2_sort_64, qX2_sort_67, qX2_sort_69, qX2_sort_71, qX2_sort_72, qX2_sort_75, qX2_sort_77, qX2_sort_80, qX2_sort_82, qX2_sort_84, qX2_sort_87, qX2_sort_90, qX2_sort_92, qX2_sort_94, qX2_sort_97, qX2_sort_99, qX2_sort_101, qX2_sort_103, qX2_sort_105, qX2_sort_108, qX2_sort_112a, qX2_sort_112b, qX2_sort_115, qX2_sort_117, qX2_sort_119, qX2_sort_122, qX2_sort_123, qX2_sort_124, qX2_sort_126, qX2_sort_127, qX2_sort_128, qX2_sort_129, qX2_sort_132, qX2_sort_135, h1, s_isIn, hb, if_false, if_true, Option.toList, List.cons_append, List.nil_append, nI_1, s_at_20, h97, pkI, phI, h2, bI, hc, show ¬ (1 : Int32) = 0 by decide]
            exact e
        | false =>
          by_cases hc : σ.1 20 q ≤ σ.1 20 l
          · rw [if_neg (by simp [betF, Int32.not_lt.mpr hc])] at e
            simp only [qX2_sort_0, qX2_sort_1, qX2_sort_2, qX2_sort_3, qX2_sort_7, qX2_sort_8, qX2_sort_11, qX2_sort_12, qX2_sort_15, qX2_sort_16, qX2_sort_17, qX2_sort_20, qX2_sort_22, qX2_sort_23, qX2_sort_24, qX2_sort_27, qX2_sort_28, qX2_sort_31, qX2_sort_32, qX2_sort_34, qX2_sort_35, qX2_sort_37, qX2_sort_38, qX2_sort_40, qX2_sort_41, qX2_sort_45, qX2_sort_46, qX2_sort_49, qX2_sort_50, qX2_sort_52, qX2_sort_55, qX2_sort_58, qX2_sort_59a, qX2_sort_59b, qX2_sort_62, qX2_sort_64, qX2_sort_67, qX2_sort_69, qX2_sort_71, qX2_sort_72, qX2_sort_75, qX2_sort_77, qX2_sort_80, qX2_sort_82, qX2_sort_84, qX2_sort_87, qX2_sort_90, qX2_sort_92, qX2_sort_94, qX2_sort_97, qX2_sort_99, qX2_sort_101, qX2_sort_103, qX2_sort_105, qX2_sort_108, qX2_sort_112a, qX2_sort_112b, qX2_sort_115, qX2_sort_117, qX2_sort_119, qX2_sort_122, qX2_sort_123, qX2_sort_124, qX2_sort_126, qX2_sort_127, qX2_sort_128, qX2_sort_129, qX2_sort_132, qX2_sort_135, h1, s_isIn, hb, if_false, if_true, Option.toList, List.cons_append, List.nil_append, nI_1, s_at_20, h97, pkI, phI, h2, bI, hc]
            exact e
          · rw [if_pos (by simp [betF, Int32.not_le.mp hc])] at e
            simp only [qX2_sort_0, qX2_sort_1, qX2_sort_2, qX2_sort_3, qX2_sort_7, qX2_sort_8, qX2_sort_11, qX2_sort_12, qX2_sort_15, qX2_sort_16, qX2_sort_17, qX2_sort_20, qX2_sort_22, qX2_sort_23, qX2_sort_24, qX2_sort_27, qX2_sort_28, qX2_sort_31, qX2_sort_32, qX2_sort_34, qX2_sort_35, qX2_sort_37, qX2_sort_38, qX2_sort_40, qX2_sort_41, qX2_sort_45, qX2_sort_46, qX2_sort_49, qX2_sort_50, qX2_sort_52, qX2_sort_55, qX2_sort_58, qX2_sort_59a, qX2_sort_59b, qX2_sort_62, qX2_sort_64, qX2_sort_67, qX2_sort_69, qX2_sort_71, qX2_sort_72, qX2_sort_75, qX2_sort_77, qX2_sort_80, qX2_sort_82, qX2_sort_84, qX2_sort_87, qX2_sort_90, qX2_sort_92, qX2_sort_94, qX2_sort_97, qX2_sort_99, qX2_sort_101, qX2_sort_103, qX2_sort_105, qX2_sort_108, qX2_sort_112a, qX2_sort_112b, qX2_sort_115, qX2_sort_117, qX2_sort_119, qX2_sort_122, qX2_sort_123, qX2_sort_124, qX2_sort_126, qX2_sort_127, qX2_sort_128, qX2_sort_129, qX2_sort_132, qX2_sort_135, h1, s_isIn, hb, if_false, if_true, Option.toList, List.cons_append, List.nil_append, nI_1, s_at_20, h97, pkI, phI, h2, bI, hc]
            exact e
theorem s_sort_loop_19 {d n : Nat} {P : mm_O} {law : Int32} (hn : n ≤ 7) : ∀ (j k : Nat) (x : Int32) (σ : mm_M) (a5 a6 a7 a8 a9 : Value), j + k = n → (∀ l, l < 7 → bt x l = tkF (σ.1 20) n law k l) → mm_at shC (d + 1) 17 [] P 5 [.ref 19, .int (nI n), .int law, .int x, .int (nI k), a5, a6, a7, a8, a9] [] σ = P none (mm_set σ 21 (fun i => if k ≤ i ∧ i < n then nI (ordF (σ.1 20) n law i) else σ.1 21 i)) := by
  intro j
  induction j with
  | zero =>
    intro k x σ a5 a6 a7 a8 a9 hk hx
    have e : (fun i => if k ≤ i ∧ i < n then nI (ordF (σ.1 20) n law i) else σ.1 21 i) = σ.1 21 := by
      funext i
      rw [if_neg (by omega)]
    rw [e, mm_set_self]
    have h1 : nI n ≤ nI k := nI_le (by omega) (by omega)
    simp [qX2_sort_0, qX2_sort_1, qX2_sort_2, qX2_sort_3, qX2_sort_5, qX2_sort_7, qX2_sort_8, qX2_sort_11, qX2_sort_12, qX2_sort_15, qX2_sort_16, qX2_sort_17, qX2_sort_20, qX2_sort_22, qX2_sort_23, qX2_sort_24, qX2_sort_27, qX2_sort_28, qX2_sort_31, qX2_sort_32, qX2_sort_34, qX2_sort_35, qX2_sort_37, qX2_sort_38, qX2_sort_40, qX2_sort_41, qX2_sort_45, qX2_sort_46, qX2_sort_49, qX2_sort_50, qX2_sort_52, qX2_sort_55, qX2_sort_58, qX2_sort_59a, qX2_sort_59b, qX2_sort_62, qX2_sort_64, qX2_sort_67, qX2_sort_69, qX2_sort_71, qX2_sort_72, qX2_sort_75, qX2_sort_77, qX2_sort_80, qX2_sort_82, qX2_sort_84, qX2_sort_87, qX2_sort_90, qX2_sort_92, qX2_sort_94, qX2_sort_97, qX2_sort_99, qX2_sort_101, qX2_sort_103, qX2_sort_105, qX2_sort_108, qX2_sort_111, qX2_sort_112a, qX2_sort_112b, qX2_sort_115, qX2_sort_117, qX2_sort_119, qX2_sort_122, qX2_sort_123, qX2_sort_124, qX2_sort_126, qX2_sort_127, qX2_sort_128, qX2_sort_129, qX2_sort_132, qX2_sort_135, h1]
  | succ j ih =>
    intro k x σ a5 a6 a7 a8 a9 hk hx
    have h1 : ¬ nI n ≤ nI k := nI_ge (by omega) (by omega)
    have hev := m_evn k (by omega)
    have hos := ord_some (hv := σ.1 20) (law := law) (show k < n by omega)
    have hol := ord_lt (hv := σ.1 20) (law := law) (show k < n by omega)
    have key : mm_at shC (d + 1) 17 [] P 43 [.ref 19, .int (nI n), .int law, .int x, .int (nI k), .int (bI (bigF law k)), .int (pkI (pick (σ.1 20) (tkF (σ.1 20) n law k) (bigF law k) 0)), .int (phI (σ.1 20) (pick (σ.1 20) (tkF (σ.1 20) n law k) (bigF law k) 0)), .int (nI 0), a9] [] σ = P none (mm_set σ 21 (fun i => if k ≤ i ∧ i < n then nI (ordF (σ.1 20) n law i) else σ.1 21 i)) := by
      refine s_sort_in_19 hn hx (fun c9 => ?_) n 0 a9 (by omega)
      rw [hos]
      simp only [qX2_sort_0, qX2_sort_1, qX2_sort_2, qX2_sort_3, qX2_sort_7, qX2_sort_8, qX2_sort_11, qX2_sort_12, qX2_sort_15, qX2_sort_16, qX2_sort_17, qX2_sort_20, qX2_sort_22, qX2_sort_23, qX2_sort_24, qX2_sort_27, qX2_sort_28, qX2_sort_31, qX2_sort_32, qX2_sort_34, qX2_sort_35, qX2_sort_37, qX2_sort_38, qX2_sort_40, qX2_sort_41, qX2_sort_45, qX2_sort_46, qX2_sort_49, qX2_sort_50, qX2_sort_52, qX2_sort_55, qX2_sort_58, qX2_sort_59a, qX2_sort_59b, qX2_sort_62, qX2_sort_64, qX2_sort_67, qX2_sort_69, qX2_sort_71, qX2_sort_72, qX2_sort_75, qX2_sort_77, qX2_sort_80, qX2_sort_82, qX2_sort_84, qX2_sort_87, qX2_sort_90, qX2_sort_92, qX2_sort_94, qX2_sort_97, qX2_sort_99, qX2_sort_101, qX2_sort_103, qX2_sort_105, qX2_sort_108, qX2_sort_111, qX2_sort_112a, qX2_sort_112b, qX2_sort_115, qX2_sort_117, qX2_sort_119, qX2_sort_122, qX2_sort_123, qX2_sort_124, qX2_sort_126, qX2_sort_127, qX2_sort_128, qX2_sort_129, qX2_sort_132, qX2_sort_135, s_put_21, Option.toList, List.cons_append, List.nil_append, nI_1, pkI]
      rw [putF_in _ _ (show k < 7 by omega) (by decide)]
      rw [ih (k + 1) _ _ _ _ _ _ _ (by omega) (fun l hl => by
        rw [m_set (by omega) (by omega), hx l hl, mm_set_ne _ _ (by decide)]
        show _ = (tkF _ n law k l || _)
        rw [hos]
        congr 1
        rw [Bool.eq_iff_iff]
        simp only [beq_iff_eq, Option.some.injEq, decide_eq_true_eq]
        exact ⟨Eq.symm, Eq.symm⟩)]
      rw [mm_set_ne _ _ (show 20 ≠ 21 by decide), mm_set_same, mm_set_set]
      congr 2
      funext i
      rw [upd_1]
      by_cases hi : i = k
      · subst hi
        simp [show i < n by omega]
      · by_cases h4 : k ≤ i ∧ i < n
        · rw [if_pos (by omega), if_pos h4]
        · rw [if_neg (by omega), if_neg hi, if_neg h4]
    have k0 : pick (σ.1 20) (tkF (σ.1 20) n law k) (bigF law k) 0 = none := rfl
    rw [k0] at key
    rw [qX2_sort_5]
    by_cases hl0 : law = 0
    · have hbg : bigF law k = true := by unfold bigF; simp [hl0]
      rw [hbg] at key
      subst hl0
      simp only [qX2_sort_0, qX2_sort_1, qX2_sort_2, qX2_sort_3, qX2_sort_7, qX2_sort_8, qX2_sort_11, qX2_sort_12, qX2_sort_15, qX2_sort_16, qX2_sort_17, qX2_sort_20, qX2_sort_22, qX2_sort_23, qX2_sort_24, qX2_sort_27, qX2_sort_28, qX2_sort_31, qX2_sort_32, qX2_sort_34, qX2_sort_35, qX2_sort_37, qX2_sort_38, qX2_sort_40, qX2_sort_41, qX2_sort_45, qX2_sort_46, qX2_sort_49, qX2_sort_50, qX2_sort_52, qX2_sort_55, qX2_sort_58, qX2_sort_59a, qX2_sort_59b, qX2_sort_62, qX2_sort_64, qX2_sort_67, qX2_sort_69, qX2_sort_71, qX2_sort_72, qX2_sort_75, qX2_sort_77, qX2_sort_80, qX2_sort_82, qX2_sort_84, qX2_sort_87, qX2_sort_90, qX2_sort_92, qX2_sort_94, qX2_sort_97, qX2_sort_99, qX2_sort_101, qX2_sort_103, qX2_sort_105, qX2_sort_108, qX2_sort_112a, qX2_sort_112b, qX2_sort_115, qX2_sort_117, qX2_sort_119, qX2_sort_122, qX2_sort_123, qX2_sort_124, qX2_sort_126, qX2_sort_127, qX2_sort_128, qX2_sort_129, qX2_sort_132, qX2_sort_135, h1, if_false, if_true]
      exact key
    · by_cases hl2 : law = 2
      · subst hl2
        by_cases he : k % 2 = 0
        · have hbg : bigF 2 k = true := by unfold bigF; simp [he]
          rw [hbg] at key
          simp only [qX2_sort_0, qX2_sort_1, qX2_sort_2, qX2_sort_3, qX2_sort_7, qX2_sort_8, qX2_sort_11, qX2_sort_12, qX2_sort_15, qX2_sort_16, qX2_sort_17, qX2_sort_20, qX2_sort_22, qX2_sort_23, qX2_sort_24, qX2_sort_27, qX2_sort_28, qX2_sort_31, qX2_sort_32, qX2_sort_34, qX2_sort_35, qX2_sort_37, qX2_sort_38, qX2_sort_40, qX2_sort_41, qX2_sort_45, qX2_sort_46, qX2_sort_49, qX2_sort_50, qX2_sort_52, qX2_sort_55, qX2_sort_58, qX2_sort_59a, qX2_sort_59b, qX2_sort_62, qX2_sort_64, qX2_sort_67, qX2_sort_69, qX2_sort_71, qX2_sort_72, qX2_sort_75, qX2_sort_77, qX2_sort_80, qX2_sort_82, qX2_sort_84, qX2_sort_87, qX2_sort_90, qX2_sort_92, qX2_sort_94, qX2_sort_97, qX2_sort_99, qX2_sort_101, qX2_sort_103, qX2_sort_105, qX2_sort_108, qX2_sort_112a, qX2_sort_112b, qX2_sort_115, qX2_sort_117, qX2_sort_119, qX2_sort_122, qX2_sort_123, qX2_sort_124, qX2_sort_126, qX2_sort_127, qX2_sort_128, qX2_sort_129, qX2_sort_132, qX2_sort_135, h1, if_false, if_true, show ¬ (2 : Int32) = 0 by decide, hev.mpr he, not_false_eq_true, true_and]
          exact key
        · have hbg : bigF 2 k = false := by unfold bigF; simp [he]
          rw [hbg] at key
          simp only [qX2_sort_0, qX2_sort_1, qX2_sort_2, qX2_sort_3, qX2_sort_7, qX2_sort_8, qX2_sort_11, qX2_sort_12, qX2_sort_15, qX2_sort_16, qX2_sort_17, qX2_sort_20, qX2_sort_22, qX2_sort_23, qX2_sort_24, qX2_sort_27, qX2_sort_28, qX2_sort_31, qX2_sort_32, qX2_sort_34, qX2_sort_35, qX2_sort_37, qX2_sort_38, qX2_sort_40, qX2_sort_41, qX2_sort_45, qX2_sort_46, qX2_sort_49, qX2_sort_50, qX2_sort_52, qX2_sort_55, qX2_sort_58, qX2_sort_59a, qX2_sort_59b, qX2_sort_62, qX2_sort_64, qX2_sort_67, qX2_sort_69, qX2_sort_71, qX2_sort_72, qX2_sort_75, qX2_sort_77, qX2_sort_80, qX2_sort_82, qX2_sort_84, qX2_sort_87, qX2_sort_90, qX2_sort_92, qX2_sort_94, qX2_sort_97, qX2_sort_99, qX2_sort_101, qX2_sort_103, qX2_sort_105, qX2_sort_108, qX2_sort_112a, qX2_sort_112b, qX2_sort_115, qX2_sort_117, qX2_sort_119, qX2_sort_122, qX2_sort_123, qX2_sort_124, qX2_sort_126, qX2_sort_127, qX2_sort_128, qX2_sort_129, qX2_sort_132, qX2_sort_135, h1, if_false, if_true, show ¬ (2 : Int32) = 0 by decide, show ¬ (nI k - nI k / 2 * 2 = 0) from fun q => he (hev.mp q), not_false_eq_true, true_and]
          exact key
      · have hbg : bigF law k = false := by unfold bigF; simp [hl0, hl2]
        rw [hbg] at key
        simp only [qX2_sort_0, qX2_sort_1, qX2_sort_2, qX2_sort_3, qX2_sort_7, qX2_sort_8, qX2_sort_11, qX2_sort_12, qX2_sort_15, qX2_sort_16, qX2_sort_17, qX2_sort_20, qX2_sort_22, qX2_sort_23, qX2_sort_24, qX2_sort_27, qX2_sort_28, qX2_sort_31, qX2_sort_32, qX2_sort_34, qX2_sort_35, qX2_sort_37, qX2_sort_38, qX2_sort_40, qX2_sort_41, qX2_sort_45, qX2_sort_46, qX2_sort_49, qX2_sort_50, qX2_sort_52, qX2_sort_55, qX2_sort_58, qX2_sort_59a, qX2_sort_59b, qX2_sort_62, qX2_sort_64, qX2_sort_67, qX2_sort_69, qX2_sort_71, qX2_sort_72, qX2_sort_75, qX2_sort_77, qX2_sort_80, qX2_sort_82, qX2_sort_84, qX2_sort_87, qX2_sort_90, qX2_sort_92, qX2_sort_94, qX2_sort_97, qX2_sort_99, qX2_sort_101, qX2_sort_103, qX2_sort_105, qX2_sort_108, qX2_sort_112a, qX2_sort_112b, qX2_sort_115, qX2_sort_117, qX2_sort_119, qX2_sort_122, qX2_sort_123, qX2_sort_124, qX2_sort_126, qX2_sort_127, qX2_sort_128, qX2_sort_129, qX2_sort_132, qX2_sort_135, h1, if_false, hl0, hl2]
        exact key
theorem s_sort_19 {d n : Nat} {P : mm_O} {σ : mm_M} {law : Int32} (hn : n ≤ 7) : mm_run shC (d + 2) 17 [.ref 19, .int (nI n), .int law] σ P = P none (mm_set σ 21 (fun i => if i < n then nI (ordF (σ.1 20) n law i) else σ.1 21 i)) := by
  rw [in_X2_sort]
  simp only [qX2_sort_0, qX2_sort_1, qX2_sort_2, qX2_sort_3, qX2_sort_7, qX2_sort_8, qX2_sort_11, qX2_sort_12, qX2_sort_15, qX2_sort_16, qX2_sort_17, qX2_sort_20, qX2_sort_22, qX2_sort_23, qX2_sort_24, qX2_sort_27, qX2_sort_28, qX2_sort_31, qX2_sort_32, qX2_sort_34, qX2_sort_35, qX2_sort_37, qX2_sort_38, qX2_sort_40, qX2_sort_41, qX2_sort_45, qX2_sort_46, qX2_sort_49, qX2_sort_50, qX2_sort_52, qX2_sort_55, qX2_sort_58, qX2_sort_59a, qX2_sort_59b, qX2_sort_62, qX2_sort_64, qX2_sort_67, qX2_sort_69, qX2_sort_71, qX2_sort_72, qX2_sort_75, qX2_sort_77, qX2_sort_80, qX2_sort_82, qX2_sort_84, qX2_sort_87, qX2_sort_90, qX2_sort_92, qX2_sort_94, qX2_sort_97, qX2_sort_99, qX2_sort_101, qX2_sort_103, qX2_sort_105, qX2_sort_108, qX2_sort_112a, qX2_sort_112b, qX2_sort_115, qX2_sort_117, qX2_sort_119, qX2_sort_122, qX2_sort_123, qX2_sort_124, qX2_sort_126, qX2_sort_127, qX2_sort_128, qX2_sort_129, qX2_sort_132, qX2_sort_135]
  have e := s_sort_loop_19 (d := d) (P := P) (law := law) hn n 0 0 σ .null .null .null .null .null (by omega) (fun l hl => by rw [b_0]; rfl)
  simp only [Nat.zero_le, true_and] at e
  exact e
theorem s_sort_in_28 {d n k : Nat} {P : mm_O} {σ : mm_M} {law x : Int32} {tk : Nat → Bool} {bb : Bool} {R : Prop} (hn : n ≤ 7) (hx : ∀ l, l < 7 → bt x l = tk l) (hR : ∀ c9, mm_at shC (d + 1) 17 [] P 111 [.ref 28, .int (nI n), .int law, .int x, .int (nI k), .int (bI bb), .int (pkI (pick (σ.1 29) tk bb n)), .int (phI (σ.1 29) (pick (σ.1 29) tk bb n)), .int (nI n), c9] [] σ = R) : ∀ (j l : Nat) (c9 : Value), j + l = n → mm_at shC (d + 1) 17 [] P 43 [.ref 28, .int (nI n), .int law, .int x, .int (nI k), .int (bI bb), .int (pkI (pick (σ.1 29) tk bb l)), .int (phI (σ.1 29) (pick (σ.1 29) tk bb l)), .int (nI l), c9] [] σ = R := by
  intro j
  induction j with
  | zero =>
    intro l c9 hl
    have hl : l = n := by omega
    subst hl
    rw [← hR c9]
    simp [qX2_sort_0, qX2_sort_1, qX2_sort_2, qX2_sort_3, qX2_sort_7, qX2_sort_8, qX2_sort_11, qX2_sort_12, qX2_sort_15, qX2_sort_16, qX2_sort_17, qX2_sort_20, qX2_sort_22, qX2_sort_23, qX2_sort_24, qX2_sort_27, qX2_sort_28, qX2_sort_31, qX2_sort_32, qX2_sort_34, qX2_sort_35, qX2_sort_37, qX2_sort_38, qX2_sort_40, qX2_sort_41, qX2_sort_43, qX2_sort_45, qX2_sort_46, qX2_sort_49, qX2_sort_50, qX2_sort_52, qX2_sort_55, qX2_sort_58, qX2_sort_59a, qX2_sort_59b, qX2_sort_62, qX2_sort_64, qX2_sort_67, qX2_sort_69, qX2_sort_71, qX2_sort_72, qX2_sort_75, qX2_sort_77, qX2_sort_80, qX2_sort_82, qX2_sort_84, qX2_sort_87, qX2_sort_90, qX2_sort_92, qX2_sort_94, qX2_sort_97, qX2_sort_99, qX2_sort_101, qX2_sort_103, qX2_sort_105, qX2_sort_108, qX2_sort_111, qX2_sort_112a, qX2_sort_112b, qX2_sort_115, qX2_sort_117, qX2_sort_119, qX2_sort_122, qX2_sort_123, qX2_sort_124, qX2_sort_126, qX2_sort_127, qX2_sort_128, qX2_sort_129, qX2_sort_132, qX2_sort_135]
  | succ j ih =>
    intro l c9 hl
    have h1 : ¬ nI n ≤ nI l := nI_ge (by omega) (by omega)
    have hb := m_bit (x := x) (l := l) (by omega)
    rw [hx l (by omega)] at hb
    have h97 : atF (σ.1 29) 7 (nI l) = σ.1 29 l := atF_in _ (by omega) (by decide)
    rw [qX2_sort_43]
    cases ht : tk l with
    | true =>
      have hb : ¬ ((x >>> (nI l &&& 31)) &&& 1 = 0) := by rw [hb, ht]; decide
      simp only [qX2_sort_0, qX2_sort_1, qX2_sort_2, qX2_sort_3, qX2_sort_7, qX2_sort_8, qX2_sort_11, qX2_sort_12, qX2_sort_15, qX2_sort_16, qX2_sort_17, qX2_sort_20, qX2_sort_22, qX2_sort_23, qX2_sort_24, qX2_sort_27, qX2_sort_28, qX2_sort_31, qX2_sort_32, qX2_sort_34, qX2_sort_35, qX2_sort_37, qX2_sort_38, qX2_sort_40, qX2_sort_41, qX2_sort_45, qX2_sort_46, qX2_sort_49, qX2_sort_50, qX2_sort_52, qX2_sort_55, qX2_sort_58, qX2_sort_59a, qX2_sort_59b, qX2_sort_62, qX2_sort_64, qX2_sort_67, qX2_sort_69, qX2_sort_71, qX2_sort_72, qX2_sort_75, qX2_sort_77, qX2_sort_80, qX2_sort_82, qX2_sort_84, qX2_sort_87, qX2_sort_90, qX2_sort_92, qX2_sort_94, qX2_sort_97, qX2_sort_99, qX2_sort_101, qX2_sort_103, qX2_sort_105, qX2_sort_108, qX2_sort_112a, qX2_sort_112b, qX2_sort_115, qX2_sort_117, qX2_sort_119, qX2_sort_122, qX2_sort_123, qX2_sort_124, qX2_sort_126, qX2_sort_127, qX2_sort_128, qX2_sort_129, qX2_sort_132, qX2_sort_135, h1, s_isIn, hb, if_false, Option.toList, List.cons_append, List.nil_append, nI_1, show ¬ (1 : Int32) = 0 by decide]
      have e := ih (l + 1) c9 (by omega)
      rw [pick_tk ht] at e
      exact e
    | false =>
      have hb : ((x >>> (nI l &&& 31)) &&& 1 = 0) := by rw [hb, ht]
      cases hp : pick (σ.1 29) tk bb l with
      | none =>
        simp only [qX2_sort_0, qX2_sort_1, qX2_sort_2, qX2_sort_3, qX2_sort_7, qX2_sort_8, qX2_sort_11, qX2_sort_12, qX2_sort_15, qX2_sort_16, qX2_sort_17, qX2_sort_20, qX2_sort_22, qX2_sort_23, qX2_sort_24, qX2_sort_27, qX2_sort_28, qX2_sort_31, qX2_sort_32, qX2_sort_34, qX2_sort_35, qX2_sort_37, qX2_sort_38, qX2_sort_40, qX2_sort_41, qX2_sort_45, qX2_sort_46, qX2_sort_49, qX2_sort_50, qX2_sort_52, qX2_sort_55, qX2_sort_58, qX2_sort_59a, qX2_sort_59b, qX2_sort_62, qX2_sort_64, qX2_sort_67, qX2_sort_69, qX2_sort_71, qX2_sort_72, qX2_sort_75, qX2_sort_77, qX2_sort_80, qX2_sort_82, qX2_sort_84, qX2_sort_87, qX2_sort_90, qX2_sort_92, qX2_sort_94, qX2_sort_97, qX2_sort_99, qX2_sort_101, qX2_sort_103, qX2_sort_105, qX2_sort_108, qX2_sort_112a, qX2_sort_112b, qX2_sort_115, qX2_sort_117, qX2_sort_119, qX2_sort_122, qX2_sort_123, qX2_sort_124, qX2_sort_126, qX2_sort_127, qX2_sort_128, qX2_sort_129, qX2_sort_132, qX2_sort_135, h1, s_isIn, hb, if_false, if_true, Option.toList, List.cons_append, List.nil_append, nI_1, s_at_29, h97, pkI, phI]
        have e := ih (l + 1) (.int (σ.1 29 l)) (by omega)
        rw [pick_n ht hp] at e
        exact e
      | some q =>
        have hq := pick_some hp
        have h2 := nI_m1 (q := q) (by omega)
        have e := ih (l + 1) (.int (σ.1 29 l)) (by omega)
        rw [pick_s ht hp] at e
        cases bb with
        | true =>
          by_cases hc : σ.1 29 l ≤ σ.1 29 q
          · rw [if_neg (by simp [betF, Int32.not_lt.mpr hc])] at e
            simp only [qX2_sort_0, qX2_sort_1, qX2_sort_2, qX2_sort_3, qX2_sort_7, qX2_sort_8, qX2_sort_11, qX2_sort_12, qX2_sort_15, qX2_sort_16, qX2_sort_17, qX2_sort_20, qX2_sort_22, qX2_sort_23, qX2_sort_24, qX2_sort_27, qX2_sort_28, qX2_sort_31, qX2_sort_32, qX2_sort_34, qX2_sort_35, qX2_sort_37, qX2_sort_38, qX2_sort_40, qX2_sort_41, qX2_sort_45, qX2_sort_46, qX2_sort_49, qX2_sort_50, qX2_sort_52, qX2_sort_55, qX2_sort_58, qX2_sort_59a, qX2_sort_59b, qX2_sort_62, qX2_sort_64, qX2_sort_67, qX2_sort_69, qX2_sort_71, qX2_sort_72, qX2_sort_75, qX2_sort_77, qX2_sort_80, qX2_sort_82, qX2_sort_84, qX2_sort_87, qX2_sort_90, qX2_sort_92, qX2_sort_94, qX2_sort_97, qX2_sort_99, qX2_sort_101, qX2_sort_103, qX2_sort_105, qX2_sort_108, qX2_sort_112a, qX2_sort_112b, qX2_sort_115, qX2_sort_117, qX2_sort_119, qX2_sort_122, qX2_sort_123, qX2_sort_124, qX2_sort_126, qX2_sort_127, qX2_sort_128, qX2_sort_129, qX2_sort_132, qX2_sort_135, h1, s_isIn, hb, if_false, if_true, Option.toList, List.cons_append, List.nil_append, nI_1, s_at_29, h97, pkI, phI, h2, bI, hc, show ¬ (1 : Int32) = 0 by decide]
            exact e
          · rw [if_pos (by simp [betF, Int32.not_le.mp hc])] at e
            simp only [qX2_sort_0, qX2_sort_1, qX2_sort_2, qX2_sort_3, qX2_sort_7, qX2_sort_8, qX2_sort_11, qX2_sort_12, qX2_sort_15, qX2_sort_16, qX2_sort_17, qX2_sort_20, qX2_sort_22, qX2_sort_23, qX2_sort_24, qX2_sort_27, qX2_sort_28, qX2_sort_31, qX2_sort_32, qX2_sort_34, qX2_sort_35, qX2_sort_37, qX2_sort_38, qX2_sort_40, qX2_sort_41, qX2_sort_45, qX2_sort_46, qX2_sort_49, qX2_sort_50, qX2_sort_52, qX2_sort_55, qX2_sort_58, qX2_sort_59a, qX2_sort_59b, qX2_sort_62, qX2_sort_64, qX2_sort_67, qX2_sort_69, qX2_sort_71, qX2_sort_72, qX2_sort_75, qX2_sort_77, qX2_sort_80, qX2_sort_82, qX2_sort_84, qX2_sort_87, qX2_sort_90, qX2_sort_92, qX2_sort_94, qX2_sort_97, qX2_sort_99, qX2_sort_101, qX2_sort_103, qX2_sort_105, qX2_sort_108, qX2_sort_112a, qX2_sort_112b, qX2_sort_115, qX2_sort_117, qX2_sort_119, qX2_sort_122, qX2_sort_123, qX2_sort_124, qX2_sort_126, qX2_sort_127, qX2_sort_128, qX2_sort_129, qX2_sort_132, qX2_sort_135, h1, s_isIn, hb, if_false, if_true, Option.toList, List.cons_append, List.nil_append, nI_1, s_at_29, h97, pkI, phI, h2, bI, hc, show ¬ (1 : Int32) = 0 by decide]
            exact e
        | false =>
          by_cases hc : σ.1 29 q ≤ σ.1 29 l
          · rw [if_neg (by simp [betF, Int32.not_lt.mpr hc])] at e
            simp only [qX2_sort_0, qX2_sort_1, qX2_sort_2, qX2_sort_3, qX2_sort_7, qX2_sort_8, qX2_sort_11, qX2_sort_12, qX2_sort_15, qX2_sort_16, qX2_sort_17, qX2_sort_20, qX2_sort_22, qX2_sort_23, qX2_sort_24, qX2_sort_27, qX2_sort_28, qX2_sort_31, qX2_sort_32, qX2_sort_34, qX2_sort_35, qX2_sort_37, qX2_sort_38, qX2_sort_40, qX2_sort_41, qX2_sort_45, qX2_sort_46, qX2_sort_49, qX2_sort_50, qX2_sort_52, qX2_sort_55, qX2_sort_58, qX2_sort_59a, qX2_sort_59b, qX2_sort_62, qX2_sort_64, qX2_sort_67, qX2_sort_69, qX2_sort_71, qX2_sort_72, qX2_sort_75, qX2_sort_77, qX2_sort_80, qX2_sort_82, qX2_sort_84, qX2_sort_87, qX2_sort_90, qX2_sort_92, qX2_sort_94, qX2_sort_97, qX2_sort_99, qX2_sort_101, qX2_sort_103, qX2_sort_105, qX2_sort_108, qX2_sort_112a, qX2_sort_112b, qX2_sort_115, qX2_sort_117, qX2_sort_119, qX2_sort_122, qX2_sort_123, qX2_sort_124, qX2_sort_126, qX2_sort_127, qX2_sort_128, qX2_sort_129, qX2_sort_132, qX2_sort_135, h1, s_isIn, hb, if_false, if_true, Option.toList, List.cons_append, List.nil_append, nI_1, s_at_29, h97, pkI, phI, h2, bI, hc]
            exact e
          · rw [if_pos (by simp [betF, Int32.not_le.mp hc])] at e
            simp only [qX2_sort_0, qX2_sort_1, qX2_sort_2, qX2_sort_3, qX2_sort_7, qX2_sort_8, qX2_sort_11, qX2_sort_12, qX2_sort_15, qX2_sort_16, qX2_sort_17, qX2_sort_20, qX2_sort_22, qX2_sort_23, qX2_sort_24, qX2_sort_27, qX2_sort_28, qX2_sort_31, qX2_sort_32, qX2_sort_34, qX2_sort_35, qX2_sort_37, qX2_sort_38, qX2_sort_40, qX2_sort_41, qX2_sort_45, qX2_sort_46, qX2_sort_49, qX2_sort_50, qX2_sort_52, qX2_sort_55, qX2_sort_58, qX2_sort_59a, qX2_sort_59b, qX2_sort_62, qX2_sort_64, qX2_sort_67, qX2_sort_69, qX2_sort_71, qX2_sort_72, qX2_sort_75, qX2_sort_77, qX2_sort_80, qX2_sort_82, qX2_sort_84, qX2_sort_87, qX2_sort_90, qX2_sort_92, qX2_sort_94, qX2_sort_97, qX2_sort_99, qX2_sort_101, qX2_sort_103, qX2_sort_105, qX2_sort_108, qX2_sort_112a, qX2_sort_112b, qX2_sort_115, qX2_sort_117, qX2_sort_119, qX2_sort_122, qX2_sort_123, qX2_sort_124, qX2_sort_126, qX2_sort_127, qX2_sort_128, qX2_sort_129, qX2_sort_132, qX2_sort_135, h1, s_isIn, hb, if_false, if_true, Option.toList, List.cons_append, List.nil_append, nI_1, s_at_29, h97, pkI, phI, h2, bI, hc]
            exact e
theorem s_sort_loop_28 {d n : Nat} {P : mm_O} {law : Int32} (hn : n ≤ 7) : ∀ (j k : Nat) (x : Int32) (σ : mm_M) (a5 a6 a7 a8 a9 : Value), j + k = n → (∀ l, l < 7 → bt x l = tkF (σ.1 29) n law k l) → mm_at shC (d + 1) 17 [] P 5 [.ref 28, .int (nI n), .int law, .int x, .int (nI k), a5, a6, a7, a8, a9] [] σ = P none (mm_set σ 30 (fun i => if k ≤ i ∧ i < n then nI (ordF (σ.1 29) n law i) else σ.1 30 i)) := by
  intro j
  induction j with
  | zero =>
    intro k x σ a5 a6 a7 a8 a9 hk hx
    have e : (fun i => if k ≤ i ∧ i < n then nI (ordF (σ.1 29) n law i) else σ.1 30 i) = σ.1 30 := by
      funext i
      rw [if_neg (by omega)]
    rw [e, mm_set_self]
    have h1 : nI n ≤ nI k := nI_le (by omega) (by omega)
    simp [qX2_sort_0, qX2_sort_1, qX2_sort_2, qX2_sort_3, qX2_sort_5, qX2_sort_7, qX2_sort_8, qX2_sort_11, qX2_sort_12, qX2_sort_15, qX2_sort_16, qX2_sort_17, qX2_sort_20, qX2_sort_22, qX2_sort_23, qX2_sort_24, qX2_sort_27, qX2_sort_28, qX2_sort_31, qX2_sort_32, qX2_sort_34, qX2_sort_35, qX2_sort_37, qX2_sort_38, qX2_sort_40, qX2_sort_41, qX2_sort_45, qX2_sort_46, qX2_sort_49, qX2_sort_50, qX2_sort_52, qX2_sort_55, qX2_sort_58, qX2_sort_59a, qX2_sort_59b, qX2_sort_62, qX2_sort_64, qX2_sort_67, qX2_sort_69, qX2_sort_71, qX2_sort_72, qX2_sort_75, qX2_sort_77, qX2_sort_80, qX2_sort_82, qX2_sort_84, qX2_sort_87, qX2_sort_90, qX2_sort_92, qX2_sort_94, qX2_sort_97, qX2_sort_99, qX2_sort_101, qX2_sort_103, qX2_sort_105, qX2_sort_108, qX2_sort_111, qX2_sort_112a, qX2_sort_112b, qX2_sort_115, qX2_sort_117, qX2_sort_119, qX2_sort_122, qX2_sort_123, qX2_sort_124, qX2_sort_126, qX2_sort_127, qX2_sort_128, qX2_sort_129, qX2_sort_132, qX2_sort_135, h1]
  | succ j ih =>
    intro k x σ a5 a6 a7 a8 a9 hk hx
    have h1 : ¬ nI n ≤ nI k := nI_ge (by omega) (by omega)
    have hev := m_evn k (by omega)
    have hos := ord_some (hv := σ.1 29) (law := law) (show k < n by omega)
    have hol := ord_lt (hv := σ.1 29) (law := law) (show k < n by omega)
    have key : mm_at shC (d + 1) 17 [] P 43 [.ref 28, .int (nI n), .int law, .int x, .int (nI k), .int (bI (bigF law k)), .int (pkI (pick (σ.1 29) (tkF (σ.1 29) n law k) (bigF law k) 0)), .int (phI (σ.1 29) (pick (σ.1 29) (tkF (σ.1 29) n law k) (bigF law k) 0)), .int (nI 0), a9] [] σ = P none (mm_set σ 30 (fun i => if k ≤ i ∧ i < n then nI (ordF (σ.1 29) n law i) else σ.1 30 i)) := by
      refine s_sort_in_28 hn hx (fun c9 => ?_) n 0 a9 (by omega)
      rw [hos]
      simp only [qX2_sort_0, qX2_sort_1, qX2_sort_2, qX2_sort_3, qX2_sort_7, qX2_sort_8, qX2_sort_11, qX2_sort_12, qX2_sort_15, qX2_sort_16, qX2_sort_17, qX2_sort_20, qX2_sort_22, qX2_sort_23, qX2_sort_24, qX2_sort_27, qX2_sort_28, qX2_sort_31, qX2_sort_32, qX2_sort_34, qX2_sort_35, qX2_sort_37, qX2_sort_38, qX2_sort_40, qX2_sort_41, qX2_sort_45, qX2_sort_46, qX2_sort_49, qX2_sort_50, qX2_sort_52, qX2_sort_55, qX2_sort_58, qX2_sort_59a, qX2_sort_59b, qX2_sort_62, qX2_sort_64, qX2_sort_67, qX2_sort_69, qX2_sort_71, qX2_sort_72, qX2_sort_75, qX2_sort_77, qX2_sort_80, qX2_sort_82, qX2_sort_84, qX2_sort_87, qX2_sort_90, qX2_sort_92, qX2_sort_94, qX2_sort_97, qX2_sort_99, qX2_sort_101, qX2_sort_103, qX2_sort_105, qX2_sort_108, qX2_sort_111, qX2_sort_112a, qX2_sort_112b, qX2_sort_115, qX2_sort_117, qX2_sort_119, qX2_sort_122, qX2_sort_123, qX2_sort_124, qX2_sort_126, qX2_sort_127, qX2_sort_128, qX2_sort_129, qX2_sort_132, qX2_sort_135, s_put_30, Option.toList, List.cons_append, List.nil_append, nI_1, pkI]
      rw [putF_in _ _ (show k < 7 by omega) (by decide)]
      rw [ih (k + 1) _ _ _ _ _ _ _ (by omega) (fun l hl => by
        rw [m_set (by omega) (by omega), hx l hl, mm_set_ne _ _ (by decide)]
        show _ = (tkF _ n law k l || _)
        rw [hos]
        congr 1
        rw [Bool.eq_iff_iff]
        simp only [beq_iff_eq, Option.some.injEq, decide_eq_true_eq]
        exact ⟨Eq.symm, Eq.symm⟩)]
      rw [mm_set_ne _ _ (show 29 ≠ 30 by decide), mm_set_same, mm_set_set]
      congr 2
      funext i
      rw [upd_1]
      by_cases hi : i = k
      · subst hi
        simp [show i < n by omega]
      · by_cases h4 : k ≤ i ∧ i < n
        · rw [if_pos (by omega), if_pos h4]
        · rw [if_neg (by omega), if_neg hi, if_neg h4]
    have k0 : pick (σ.1 29) (tkF (σ.1 29) n law k) (bigF law k) 0 = none := rfl
    rw [k0] at key
    rw [qX2_sort_5]
    by_cases hl0 : law = 0
    · have hbg : bigF law k = true := by unfold bigF; simp [hl0]
      rw [hbg] at key
      subst hl0
      simp only [qX2_sort_0, qX2_sort_1, qX2_sort_2, qX2_sort_3, qX2_sort_7, qX2_sort_8, qX2_sort_11, qX2_sort_12, qX2_sort_15, qX2_sort_16, qX2_sort_17, qX2_sort_20, qX2_sort_22, qX2_sort_23, qX2_sort_24, qX2_sort_27, qX2_sort_28, qX2_sort_31, qX2_sort_32, qX2_sort_34, qX2_sort_35, qX2_sort_37, qX2_sort_38, qX2_sort_40, qX2_sort_41, qX2_sort_45, qX2_sort_46, qX2_sort_49, qX2_sort_50, qX2_sort_52, qX2_sort_55, qX2_sort_58, qX2_sort_59a, qX2_sort_59b, qX2_sort_62, qX2_sort_64, qX2_sort_67, qX2_sort_69, qX2_sort_71, qX2_sort_72, qX2_sort_75, qX2_sort_77, qX2_sort_80, qX2_sort_82, qX2_sort_84, qX2_sort_87, qX2_sort_90, qX2_sort_92, qX2_sort_94, qX2_sort_97, qX2_sort_99, qX2_sort_101, qX2_sort_103, qX2_sort_105, qX2_sort_108, qX2_sort_112a, qX2_sort_112b, qX2_sort_115, qX2_sort_117, qX2_sort_119, qX2_sort_122, qX2_sort_123, qX2_sort_124, qX2_sort_126, qX2_sort_127, qX2_sort_128, qX2_sort_129, qX2_sort_132, qX2_sort_135, h1, if_false, if_true]
      exact key
    · by_cases hl2 : law = 2
      · subst hl2
        by_cases he : k % 2 = 0
        · have hbg : bigF 2 k = true := by unfold bigF; simp [he]
          rw [hbg] at key
          simp only [qX2_sort_0, qX2_sort_1, qX2_sort_2, qX2_sort_3, qX2_sort_7, qX2_sort_8, qX2_sort_11, qX2_sort_12, qX2_sort_15, qX2_sort_16, qX2_sort_17, qX2_sort_20, qX2_sort_22, qX2_sort_23, qX2_sort_24, qX2_sort_27, qX2_sort_28, qX2_sort_31, qX2_sort_32, qX2_sort_34, qX2_sort_35, qX2_sort_37, qX2_sort_38, qX2_sort_40, qX2_sort_41, qX2_sort_45, qX2_sort_46, qX2_sort_49, qX2_sort_50, qX2_sort_52, qX2_sort_55, qX2_sort_58, qX2_sort_59a, qX2_sort_59b, qX2_sort_62, qX2_sort_64, qX2_sort_67, qX2_sort_69, qX2_sort_71, qX2_sort_72, qX2_sort_75, qX2_sort_77, qX2_sort_80, qX2_sort_82, qX2_sort_84, qX2_sort_87, qX2_sort_90, qX2_sort_92, qX2_sort_94, qX2_sort_97, qX2_sort_99, qX2_sort_101, qX2_sort_103, qX2_sort_105, qX2_sort_108, qX2_sort_112a, qX2_sort_112b, qX2_sort_115, qX2_sort_117, qX2_sort_119, qX2_sort_122, qX2_sort_123, qX2_sort_124, qX2_sort_126, qX2_sort_127, qX2_sort_128, qX2_sort_129, qX2_sort_132, qX2_sort_135, h1, if_false, if_true, show ¬ (2 : Int32) = 0 by decide, hev.mpr he, not_false_eq_true, true_and]
          exact key
        · have hbg : bigF 2 k = false := by unfold bigF; simp [he]
          rw [hbg] at key
          simp only [qX2_sort_0, qX2_sort_1, qX2_sort_2, qX2_sort_3, qX2_sort_7, qX2_sort_8, qX2_sort_11, qX2_sort_12, qX2_sort_15, qX2_sort_16, qX2_sort_17, qX2_sort_20, qX2_sort_22, qX2_sort_23, qX2_sort_24, qX2_sort_27, qX2_sort_28, qX2_sort_31, qX2_sort_32, qX2_sort_34, qX2_sort_35, qX2_sort_37, qX2_sort_38, qX2_sort_40, qX2_sort_41, qX2_sort_45, qX2_sort_46, qX2_sort_49, qX2_sort_50, qX2_sort_52, qX2_sort_55, qX2_sort_58, qX2_sort_59a, qX2_sort_59b, qX2_sort_62, qX2_sort_64, qX2_sort_67, qX2_sort_69, qX2_sort_71, qX2_sort_72, qX2_sort_75, qX2_sort_77, qX2_sort_80, qX2_sort_82, qX2_sort_84, qX2_sort_87, qX2_sort_90, qX2_sort_92, qX2_sort_94, qX2_sort_97, qX2_sort_99, qX2_sort_101, qX2_sort_103, qX2_sort_105, qX2_sort_108, qX2_sort_112a, qX2_sort_112b, qX2_sort_115, qX2_sort_117, qX2_sort_119, qX2_sort_122, qX2_sort_123, qX2_sort_124, qX2_sort_126, qX2_sort_127, qX2_sort_128, qX2_sort_129, qX2_sort_132, qX2_sort_135, h1, if_false, if_true, show ¬ (2 : Int32) = 0 by decide, show ¬ (nI k - nI k / 2 * 2 = 0) from fun q => he (hev.mp q), not_false_eq_true, true_and]
          exact key
      · have hbg : bigF law k = false := by unfold bigF; simp [hl0, hl2]
        rw [hbg] at key
        simp only [qX2_sort_0, qX2_sort_1, qX2_sort_2, qX2_sort_3, qX2_sort_7, qX2_sort_8, qX2_sort_11, qX2_sort_12, qX2_sort_15, qX2_sort_16, qX2_sort_17, qX2_sort_20, qX2_sort_22, qX2_sort_23, qX2_sort_24, qX2_sort_27, qX2_sort_28, qX2_sort_31, qX2_sort_32, qX2_sort_34, qX2_sort_35, qX2_sort_37, qX2_sort_38, qX2_sort_40, qX2_sort_41, qX2_sort_45, qX2_sort_46, qX2_sort_49, qX2_sort_50, qX2_sort_52, qX2_sort_55, qX2_sort_58, qX2_sort_59a, qX2_sort_59b, qX2_sort_62, qX2_sort_64, qX2_sort_67, qX2_sort_69, qX2_sort_71, qX2_sort_72, qX2_sort_75, qX2_sort_77, qX2_sort_80, qX2_sort_82, qX2_sort_84, qX2_sort_87, qX2_sort_90, qX2_sort_92, qX2_sort_94, qX2_sort_97, qX2_sort_99, qX2_sort_101, qX2_sort_103, qX2_sort_105, qX2_sort_108, qX2_sort_112a, qX2_sort_112b, qX2_sort_115, qX2_sort_117, qX2_sort_119, qX2_sort_122, qX2_sort_123, qX2_sort_124, qX2_sort_126, qX2_sort_127, qX2_sort_128, qX2_sort_129, qX2_sort_132, qX2_sort_135, h1, if_false, hl0, hl2]
        exact key
theorem s_sort_28 {d n : Nat} {P : mm_O} {σ : mm_M} {law : Int32} (hn : n ≤ 7) : mm_run shC (d + 2) 17 [.ref 28, .int (nI n), .int law] σ P = P none (mm_set σ 30 (fun i => if i < n then nI (ordF (σ.1 29) n law i) else σ.1 30 i)) := by
  rw [in_X2_sort]
  simp only [qX2_sort_0, qX2_sort_1, qX2_sort_2, qX2_sort_3, qX2_sort_7, qX2_sort_8, qX2_sort_11, qX2_sort_12, qX2_sort_15, qX2_sort_16, qX2_sort_17, qX2_sort_20, qX2_sort_22, qX2_sort_23, qX2_sort_24, qX2_sort_27, qX2_sort_28, qX2_sort_31, qX2_sort_32, qX2_sort_34, qX2_sort_35, qX2_sort_37, qX2_sort_38, qX2_sort_40, qX2_sort_41, qX2_sort_45, qX2_sort_46, qX2_sort_49, qX2_sort_50, qX2_sort_52, qX2_sort_55, qX2_sort_58, qX2_sort_59a, qX2_sort_59b, qX2_sort_62, qX2_sort_64, qX2_sort_67, qX2_sort_69, qX2_sort_71, qX2_sort_72, qX2_sort_75, qX2_sort_77, qX2_sort_80, qX2_sort_82, qX2_sort_84, qX2_sort_87, qX2_sort_90, qX2_sort_92, qX2_sort_94, qX2_sort_97, qX2_sort_99, qX2_sort_101, qX2_sort_103, qX2_sort_105, qX2_sort_108, qX2_sort_112a, qX2_sort_112b, qX2_sort_115, qX2_sort_117, qX2_sort_119, qX2_sort_122, qX2_sort_123, qX2_sort_124, qX2_sort_126, qX2_sort_127, qX2_sort_128, qX2_sort_129, qX2_sort_132, qX2_sort_135]
  have e := s_sort_loop_28 (d := d) (P := P) (law := law) hn n 0 0 σ .null .null .null .null .null (by omega) (fun l hl => by rw [b_0]; rfl)
  simp only [Nat.zero_le, true_and] at e
  exact e
