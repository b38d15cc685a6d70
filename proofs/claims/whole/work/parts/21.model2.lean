/-! THE REFERENCE: order, walk, what is had -/
theorem s_MputInOrder_loop {d n : Nat} {P : mm_O} (hn : n ≤ 7) : ∀ (j k : Nat) (x : Int32) (μ : mm_M) (a3 : Value), j + k = n → μ.1 0 3 = nI n → (∀ l, l < n → bt x l = !tkF (μ.1 16) n (μ.1 0 10) k l) → mm_at shM (d + 2) 102 [] P 11 [.ref 0, .int x, .int (nI k), a3] [] μ = P none (mm_set μ 15 (fun i => if k ≤ i ∧ i < n then nI (ordF (μ.1 16) n (μ.1 0 10) i) else μ.1 15 i)) := by
  intro j
  induction j with
  | zero =>
    intro k x μ a3 hk hc hx
    have e : (fun i => if k ≤ i ∧ i < n then nI (ordF (μ.1 16) n (μ.1 0 10) i) else μ.1 15 i) = μ.1 15 := by
      funext i
      rw [if_neg (by omega)]
    rw [e, mm_set_self]
    have h1 : nI n ≤ nI k := nI_le (by omega) (by omega)
    simp [qX7_putInOrder_0, qX7_putInOrder_1, qX7_putInOrder_2, qX7_putInOrder_5, qX7_putInOrder_6, qX7_putInOrder_7, qX7_putInOrder_8, qX7_putInOrder_9, qX7_putInOrder_10, qX7_putInOrder_11, qX7_putInOrder_12, qX7_putInOrder_13, qX7_putInOrder_16, qX7_putInOrder_19, qX7_putInOrder_20, qX7_putInOrder_21, qX7_putInOrder_22, qX7_putInOrder_25, qX7_putInOrder_28, qX7_putInOrder_29, qX7_putInOrder_32, qX7_putInOrder_33, qX7_putInOrder_36, qX7_putInOrder_37, qX7_putInOrder_38, qX7_putInOrder_39, qX7_putInOrder_42, qX7_putInOrder_43, qX7_putInOrder_46, qX7_putInOrder_47, qX7_putInOrder_50, qX7_putInOrder_51, qX7_putInOrder_52, qX7_putInOrder_55, qX7_putInOrder_56, qX7_putInOrder_57, qX7_putInOrder_58, qX7_putInOrder_59, qX7_putInOrder_60, qX7_putInOrder_61, qX7_putInOrder_62, qX7_putInOrder_63, qX7_putInOrder_64, qX7_putInOrder_65, qX7_putInOrder_66, qX7_putInOrder_69, qX7_putInOrder_72, hc, h1]
  | succ j ih =>
    intro k x μ a3 hk hc hx
    have h1 : ¬ nI n ≤ nI k := nI_ge (by omega) (by omega)
    have h2 : vp_in (nI k) 7 := vp_in_nI (by omega) (by decide)
    have h3 : (nI k).toNatClampNeg = k := nI_clamp (by omega)
    have hev := m_evn k (by omega)
    have hos := ord_some (hv := μ.1 16) (law := μ.1 0 10) (show k < n by omega)
    have hol := ord_lt (hv := μ.1 16) (law := μ.1 0 10) (show k < n by omega)
    have key : mm_run shM (d + 2) 100 [.ref 0, .int x, .int (bI (bigF (μ.1 0 10) k))] μ (fun v σ => mm_at shM (d + 2) 102 [] P 50 [.ref 0, .int x, .int (nI k), a3] (v.toList ++ []) σ) = P none (mm_set μ 15 (fun i => if k ≤ i ∧ i < n then nI (ordF (μ.1 16) n (μ.1 0 10) i) else μ.1 15 i)) := by
      rw [s_MnextOf hn hc hx, hos]
      simp only [qX7_putInOrder_0, qX7_putInOrder_1, qX7_putInOrder_2, qX7_putInOrder_5, qX7_putInOrder_6, qX7_putInOrder_7, qX7_putInOrder_8, qX7_putInOrder_9, qX7_putInOrder_10, qX7_putInOrder_12, qX7_putInOrder_13, qX7_putInOrder_16, qX7_putInOrder_19, qX7_putInOrder_20, qX7_putInOrder_21, qX7_putInOrder_22, qX7_putInOrder_25, qX7_putInOrder_28, qX7_putInOrder_29, qX7_putInOrder_32, qX7_putInOrder_33, qX7_putInOrder_36, qX7_putInOrder_37, qX7_putInOrder_38, qX7_putInOrder_39, qX7_putInOrder_42, qX7_putInOrder_43, qX7_putInOrder_46, qX7_putInOrder_47, qX7_putInOrder_50, qX7_putInOrder_51, qX7_putInOrder_52, qX7_putInOrder_55, qX7_putInOrder_56, qX7_putInOrder_57, qX7_putInOrder_58, qX7_putInOrder_59, qX7_putInOrder_60, qX7_putInOrder_61, qX7_putInOrder_62, qX7_putInOrder_63, qX7_putInOrder_64, qX7_putInOrder_65, qX7_putInOrder_66, qX7_putInOrder_69, qX7_putInOrder_72, Option.toList, List.cons_append, List.nil_append, nI_1, pkI, h2, h3, true_and, mm_sti_set]
      rw [ih (k + 1) _ _ _ (by omega) (by simp [mm_set_1, hc]) (fun l hl => by
        rw [m_clr (by omega) (by omega), hx l hl]
        simp only [mm_set_1]
        show _ = !(tkF _ n _ k l || _)
        simp only [show (16 : Nat) = 15 ↔ False by decide, if_false, show (0 : Nat) = 15 ↔ False by decide]
        rw [hos, Bool.not_or]
        congr 2
        rw [Bool.eq_iff_iff]
        simp only [beq_iff_eq, Option.some.injEq, decide_eq_true_eq]
        exact ⟨Eq.symm, Eq.symm⟩)]
      rw [mm_set_ne _ _ (show 16 ≠ 15 by decide), mm_set_ne _ _ (show 0 ≠ 15 by decide), mm_set_same, mm_set_set]
      congr 2
      funext i
      rw [upd_1]
      by_cases hi : i = k
      · subst hi
        simp [show i < n by omega]
      · by_cases h4 : k ≤ i ∧ i < n
        · rw [if_pos (by omega), if_pos h4]
        · rw [if_neg (by omega), if_neg hi, if_neg h4]
    rw [qX7_putInOrder_11]
    by_cases hl0 : μ.1 0 10 = 0
    · have hbg : bigF (μ.1 0 10) k = true := by unfold bigF; simp [hl0]
      rw [hbg] at key
      simp only [qX7_putInOrder_0, qX7_putInOrder_1, qX7_putInOrder_2, qX7_putInOrder_5, qX7_putInOrder_6, qX7_putInOrder_7, qX7_putInOrder_8, qX7_putInOrder_9, qX7_putInOrder_10, qX7_putInOrder_12, qX7_putInOrder_13, qX7_putInOrder_16, qX7_putInOrder_19, qX7_putInOrder_20, qX7_putInOrder_21, qX7_putInOrder_22, qX7_putInOrder_25, qX7_putInOrder_28, qX7_putInOrder_29, qX7_putInOrder_32, qX7_putInOrder_33, qX7_putInOrder_36, qX7_putInOrder_37, qX7_putInOrder_38, qX7_putInOrder_39, qX7_putInOrder_42, qX7_putInOrder_43, qX7_putInOrder_46, qX7_putInOrder_47, qX7_putInOrder_51, qX7_putInOrder_52, qX7_putInOrder_55, qX7_putInOrder_56, qX7_putInOrder_57, qX7_putInOrder_58, qX7_putInOrder_59, qX7_putInOrder_60, qX7_putInOrder_61, qX7_putInOrder_62, qX7_putInOrder_63, qX7_putInOrder_64, qX7_putInOrder_65, qX7_putInOrder_66, qX7_putInOrder_69, qX7_putInOrder_72, hc, h1, hl0, if_false, if_true]
      rw [hl0] at key
      exact key
    · by_cases hl2 : μ.1 0 10 = 2
      · by_cases he : k % 2 = 0
        · have hbg : bigF (μ.1 0 10) k = true := by unfold bigF; simp [he, hl2]
          rw [hbg, hl2] at key
          simp only [qX7_putInOrder_0, qX7_putInOrder_1, qX7_putInOrder_2, qX7_putInOrder_5, qX7_putInOrder_6, qX7_putInOrder_7, qX7_putInOrder_8, qX7_putInOrder_9, qX7_putInOrder_10, qX7_putInOrder_12, qX7_putInOrder_13, qX7_putInOrder_16, qX7_putInOrder_19, qX7_putInOrder_20, qX7_putInOrder_21, qX7_putInOrder_22, qX7_putInOrder_25, qX7_putInOrder_28, qX7_putInOrder_29, qX7_putInOrder_32, qX7_putInOrder_33, qX7_putInOrder_36, qX7_putInOrder_37, qX7_putInOrder_38, qX7_putInOrder_39, qX7_putInOrder_42, qX7_putInOrder_43, qX7_putInOrder_46, qX7_putInOrder_47, qX7_putInOrder_51, qX7_putInOrder_52, qX7_putInOrder_55, qX7_putInOrder_56, qX7_putInOrder_57, qX7_putInOrder_58, qX7_putInOrder_59, qX7_putInOrder_60, qX7_putInOrder_61, qX7_putInOrder_62, qX7_putInOrder_63, qX7_putInOrder_64, qX7_putInOrder_65, qX7_putInOrder_66, qX7_putInOrder_69, qX7_putInOrder_72, hc, h1, hl2, if_false, if_true, show ¬ (2 : Int32) = 0 by decide, hev.mpr he, not_false_eq_true, true_and]
          exact key
        · have hbg : bigF (μ.1 0 10) k = false := by unfold bigF; simp [he, hl2]
          rw [hbg, hl2] at key
          simp only [qX7_putInOrder_0, qX7_putInOrder_1, qX7_putInOrder_2, qX7_putInOrder_5, qX7_putInOrder_6, qX7_putInOrder_7, qX7_putInOrder_8, qX7_putInOrder_9, qX7_putInOrder_10, qX7_putInOrder_12, qX7_putInOrder_13, qX7_putInOrder_16, qX7_putInOrder_19, qX7_putInOrder_20, qX7_putInOrder_21, qX7_putInOrder_22, qX7_putInOrder_25, qX7_putInOrder_28, qX7_putInOrder_29, qX7_putInOrder_32, qX7_putInOrder_33, qX7_putInOrder_36, qX7_putInOrder_37, qX7_putInOrder_38, qX7_putInOrder_39, qX7_putInOrder_42, qX7_putInOrder_43, qX7_putInOrder_46, qX7_putInOrder_47, qX7_putInOrder_51, qX7_putInOrder_52, qX7_putInOrder_55, qX7_putInOrder_56, qX7_putInOrder_57, qX7_putInOrder_58, qX7_putInOrder_59, qX7_putInOrder_60, qX7_putInOrder_61, qX7_putInOrder_62, qX7_putInOrder_63, qX7_putInOrder_64, qX7_putInOrder_65, qX7_putInOrder_66, qX7_putInOrder_69, qX7_putInOrder_72, hc, h1, hl2, if_false, if_true, show ¬ (2 : Int32) = 0 by decide, show ¬ (nI k - nI k / 2 * 2 = 0) from fun q => he (hev.mp q), not_false_eq_true, true_and]
          exact key
      · have hbg : bigF (μ.1 0 10) k = false := by unfold bigF; simp [hl0, hl2]
        rw [hbg] at key
        simp only [qX7_putInOrder_0, qX7_putInOrder_1, qX7_putInOrder_2, qX7_putInOrder_5, qX7_putInOrder_6, qX7_putInOrder_7, qX7_putInOrder_8, qX7_putInOrder_9, qX7_putInOrder_10, qX7_putInOrder_12, qX7_putInOrder_13, qX7_putInOrder_16, qX7_putInOrder_19, qX7_putInOrder_20, qX7_putInOrder_21, qX7_putInOrder_22, qX7_putInOrder_25, qX7_putInOrder_28, qX7_putInOrder_29, qX7_putInOrder_32, qX7_putInOrder_33, qX7_putInOrder_36, qX7_putInOrder_37, qX7_putInOrder_38, qX7_putInOrder_39, qX7_putInOrder_42, qX7_putInOrder_43, qX7_putInOrder_46, qX7_putInOrder_47, qX7_putInOrder_51, qX7_putInOrder_52, qX7_putInOrder_55, qX7_putInOrder_56, qX7_putInOrder_57, qX7_putInOrder_58, qX7_putInOrder_59, qX7_putInOrder_60, qX7_putInOrder_61, qX7_putInOrder_62, qX7_putInOrder_63, qX7_putInOrder_64, qX7_putInOrder_65, qX7_putInOrder_66, qX7_putInOrder_69, qX7_putInOrder_72, hc, h1, if_false, hl0, hl2]
        exact key
theorem s_MputInOrder {d n : Nat} {P : mm_O} {μ : mm_M} (hn : n ≤ 7) (hc : μ.1 0 3 = nI n) : mm_run shM (d + 3) 102 [.ref 0] μ P = P none (mm_set μ 15 (fun i => if i < n then nI (ordF (μ.1 16) n (μ.1 0 10) i) else μ.1 15 i)) := by
  rw [in_X7_putInOrder]
  simp only [qX7_putInOrder_0, qX7_putInOrder_1, qX7_putInOrder_2, qX7_putInOrder_5, qX7_putInOrder_6, qX7_putInOrder_7, qX7_putInOrder_8, qX7_putInOrder_9, qX7_putInOrder_10, qX7_putInOrder_12, qX7_putInOrder_13, qX7_putInOrder_16, qX7_putInOrder_19, qX7_putInOrder_20, qX7_putInOrder_21, qX7_putInOrder_22, qX7_putInOrder_25, qX7_putInOrder_28, qX7_putInOrder_29, qX7_putInOrder_32, qX7_putInOrder_33, qX7_putInOrder_36, qX7_putInOrder_37, qX7_putInOrder_38, qX7_putInOrder_39, qX7_putInOrder_42, qX7_putInOrder_43, qX7_putInOrder_46, qX7_putInOrder_47, qX7_putInOrder_51, qX7_putInOrder_52, qX7_putInOrder_55, qX7_putInOrder_56, qX7_putInOrder_57, qX7_putInOrder_58, qX7_putInOrder_59, qX7_putInOrder_60, qX7_putInOrder_61, qX7_putInOrder_62, qX7_putInOrder_63, qX7_putInOrder_64, qX7_putInOrder_65, qX7_putInOrder_66, qX7_putInOrder_69, qX7_putInOrder_72, hc]
  have e := s_MputInOrder_loop (d := d) (P := P) hn n 0 ((1 : Int32) <<< (nI n &&& 31) - 1) μ .null (by omega) hc (fun l hl => by rw [m_full n (by omega) l (by omega)]; simp [hl, tkF])
  simp only [Nat.zero_le, true_and] at e
  exact e
theorem s_MwalkFrom_loop {d n f m : Nat} {P : mm_O} {μ : mm_M} {od g : Nat → Nat} (hn : n ≤ 7) (hfm : f ≤ m) (hmn : m ≤ n) (hrow : ∀ k, k < n → μ.1 15 k = nI (od k)) (hod : ∀ k, k < n → od k < n) (hgl : ∀ l, l < n → μ.1 3 l = nI (g l)) (hg : ∀ l, l < n → g l < 7) : ∀ (j k : Nat), j + k = m - f → mm_at shM (d + 2) 103 [] P 8 [.ref 0, .int (nI f), .int (nI m), .int (nI (plcF g (fun i => od (f + i)) k)), .int (wlkF (μ.1 1) (μ.1 2) g (fun i => od (f + i)) k), .int (nI (f + k))] [] (mm_set μ 17 (cmF (μ.1 17) (fun i => od (f + i)) (wlkF (μ.1 1) (μ.1 2) g (fun i => od (f + i))) k)) = P (some (.int (wlkF (μ.1 1) (μ.1 2) g (fun i => od (f + i)) (m - f)))) (mm_set μ 17 (cmF (μ.1 17) (fun i => od (f + i)) (wlkF (μ.1 1) (μ.1 2) g (fun i => od (f + i))) (m - f))) := by
  intro j
  induction j with
  | zero =>
    intro k hk
    have hk : k = m - f := by omega
    have h1 : nI m ≤ nI (f + k) := nI_le (by omega) (by omega)
    subst hk
    simp [qX7_walkFrom_0, qX7_walkFrom_1, qX7_walkFrom_2, qX7_walkFrom_3, qX7_walkFrom_5, qX7_walkFrom_6, qX7_walkFrom_8, qX7_walkFrom_10, qX7_walkFrom_11, qX7_walkFrom_14, qX7_walkFrom_16, qX7_walkFrom_17, qX7_walkFrom_18, qX7_walkFrom_19, qX7_walkFrom_22, qX7_walkFrom_23, qX7_walkFrom_26, qX7_walkFrom_28, qX7_walkFrom_29, qX7_walkFrom_30, qX7_walkFrom_33, qX7_walkFrom_34, qX7_walkFrom_36, qX7_walkFrom_37, qX7_walkFrom_40, qX7_walkFrom_41, qX7_walkFrom_44, qX7_walkFrom_46, qX7_walkFrom_47, qX7_walkFrom_48, qX7_walkFrom_49, qX7_walkFrom_50, qX7_walkFrom_53, qX7_walkFrom_54, qX7_walkFrom_57, qX7_walkFrom_59, qX7_walkFrom_60, qX7_walkFrom_62, qX7_walkFrom_63, qX7_walkFrom_66, qX7_walkFrom_69, qX7_walkFrom_71, h1]
  | succ j ih =>
    intro k hk
    have h1 : ¬ nI m ≤ nI (f + k) := nI_ge (by omega) (by omega)
    have h2 : vp_in (nI (f + k)) 7 := vp_in_nI (by omega) (by decide)
    have h3 : (nI (f + k)).toNatClampNeg = f + k := nI_clamp (by omega)
    have ho := hod (f + k) (by omega)
    have h4 : vp_in (nI (od (f + k))) 7 := vp_in_nI (by omega) (by decide)
    have h5 : (nI (od (f + k))).toNatClampNeg = od (f + k) := nI_clamp (by omega)
    have hp7 := pl7 (g := g) (od := fun i => od (f + i)) (n := n) (k := k) hg
    have hp7 : plcF g (fun i => od (f + i)) k < 7 := by
      cases k with
      | zero => exact (by decide : 0 < 7)
      | succ k => exact hg _ (hod (f + k) (by omega))
    have hq7 := hg (od (f + k)) ho
    have hr := hrow (f + k) (by omega)
    have hgo := hgl (od (f + k)) ho
    have e := ih (k + 1) (by omega)
    rw [show f + (k + 1) = f + k + 1 by omega, ← nI_1 (f + k)] at e
    rw [qX7_walkFrom_8]
    simp only [qX7_walkFrom_0, qX7_walkFrom_1, qX7_walkFrom_2, qX7_walkFrom_3, qX7_walkFrom_5, qX7_walkFrom_6, qX7_walkFrom_10, qX7_walkFrom_11, qX7_walkFrom_14, qX7_walkFrom_16, qX7_walkFrom_17, qX7_walkFrom_18, qX7_walkFrom_19, qX7_walkFrom_22, qX7_walkFrom_23, qX7_walkFrom_26, qX7_walkFrom_28, qX7_walkFrom_29, qX7_walkFrom_30, qX7_walkFrom_33, qX7_walkFrom_34, qX7_walkFrom_36, qX7_walkFrom_37, qX7_walkFrom_40, qX7_walkFrom_41, qX7_walkFrom_44, qX7_walkFrom_46, qX7_walkFrom_47, qX7_walkFrom_48, qX7_walkFrom_49, qX7_walkFrom_50, qX7_walkFrom_53, qX7_walkFrom_54, qX7_walkFrom_57, qX7_walkFrom_59, qX7_walkFrom_60, qX7_walkFrom_62, qX7_walkFrom_63, qX7_walkFrom_66, qX7_walkFrom_69, qX7_walkFrom_71, mm_set_1, h1, h2, h3, h4, h5, hr, hgo, s_MfarOf hp7 hq7, if_false, true_and, Option.toList, List.cons_append, List.nil_append, mm_sti_set, mm_set_set, Nat.reduceEqDiff, if_true]
    exact e
theorem s_MwalkFrom {d n f m : Nat} {P : mm_O} {μ : mm_M} {od g : Nat → Nat} (hn : n ≤ 7) (hfm : f ≤ m) (hmn : m ≤ n) (hrow : ∀ k, k < n → μ.1 15 k = nI (od k)) (hod : ∀ k, k < n → od k < n) (hgl : ∀ l, l < n → μ.1 3 l = nI (g l)) (hg : ∀ l, l < n → g l < 7) : mm_run shM (d + 3) 103 [.ref 0, .int (nI f), .int (nI m)] μ P = P (some (.int (wlkF (μ.1 1) (μ.1 2) g (fun i => od (f + i)) (m - f)))) (mm_set μ 17 (cmF (μ.1 17) (fun i => od (f + i)) (wlkF (μ.1 1) (μ.1 2) g (fun i => od (f + i))) (m - f))) := by
  rw [in_X7_walkFrom]
  simp only [qX7_walkFrom_0, qX7_walkFrom_1, qX7_walkFrom_2, qX7_walkFrom_3, qX7_walkFrom_5, qX7_walkFrom_6, qX7_walkFrom_10, qX7_walkFrom_11, qX7_walkFrom_14, qX7_walkFrom_16, qX7_walkFrom_17, qX7_walkFrom_18, qX7_walkFrom_19, qX7_walkFrom_22, qX7_walkFrom_23, qX7_walkFrom_26, qX7_walkFrom_28, qX7_walkFrom_29, qX7_walkFrom_30, qX7_walkFrom_33, qX7_walkFrom_34, qX7_walkFrom_36, qX7_walkFrom_37, qX7_walkFrom_40, qX7_walkFrom_41, qX7_walkFrom_44, qX7_walkFrom_46, qX7_walkFrom_47, qX7_walkFrom_48, qX7_walkFrom_49, qX7_walkFrom_50, qX7_walkFrom_53, qX7_walkFrom_54, qX7_walkFrom_57, qX7_walkFrom_59, qX7_walkFrom_60, qX7_walkFrom_62, qX7_walkFrom_63, qX7_walkFrom_66, qX7_walkFrom_69, qX7_walkFrom_71]
  have e := s_MwalkFrom_loop (d := d) (P := P) hn hfm hmn hrow hod hgl hg (m - f) 0 (by omega)
  simp only [cmF, mm_set_self] at e
  exact e
def odM (μ : mm_M) (n : Nat) : Nat → Nat := ordF (hvM μ) n (μ.1 0 10)
def WM (μ : mm_M) (n : Nat) : Nat → Int32 := wlkF (μ.1 1) (μ.1 2) (glF (μ.1 3)) (odM μ n)
/-- the reference's memory behind a walk -/
def wnF (μ : mm_M) (n : Nat) : mm_M := mm_set (mm_set (shF μ n) 15 (fun i => if i < n then nI (odM μ n i) else μ.1 15 i)) 17 (cmF (μ.1 17) (odM μ n) (WM μ n) n)
def okM (μ : mm_M) (n : Nat) : Prop := μ.1 0 3 = nI n ∧ n ≤ 7 ∧ ∀ l, l < n → μ.1 3 l = nI (glF (μ.1 3) l) ∧ glF (μ.1 3) l < 7
theorem wnF_o {μ : mm_M} {n k : Nat} (h1 : k ≠ 15) (h2 : k ≠ 16) (h3 : k ≠ 17) : (wnF μ n).1 k = μ.1 k := by
  simp [wnF, shF, mm_set_1, h1, h2, h3]
theorem wnF_2 {μ : mm_M} {n : Nat} : (wnF μ n).2 = μ.2 := rfl
theorem wnF_h {μ : mm_M} {n l : Nat} (hl : l < n) : (wnF μ n).1 16 l = hvM μ l := by simp [wnF, shF, mm_set_1, hl]
theorem wnF_row {μ : mm_M} {n k : Nat} (hk : k < n) : (wnF μ n).1 15 k = nI (odM μ n k) := by simp [wnF, shF, mm_set_1, hk]
theorem odM_lt {μ : mm_M} {n k : Nat} (h : k < n) : odM μ n k < n := ord_lt h
theorem odM_inj {μ : mm_M} {n : Nat} : ∀ i j, i < n → j < n → odM μ n i = odM μ n j → i = j := fun _ _ h1 h2 h => ord_inj h1 h2 h
theorem odM_rk {μ : mm_M} {n l : Nat} (h : l < n) : rkF (odM μ n) n l < n ∧ odM μ n (rkF (odM μ n) n l) = l := by
  obtain ⟨k, hk, e⟩ := ord_onto (hv := hvM μ) (law := μ.1 0 10) h
  have e2 : rkF (odM μ n) n l = k := by
    rw [← e]
    exact rkF_at odM_inj hk
  rw [e2]
  exact ⟨hk, e⟩
def comeM (μ : mm_M) (n l : Nat) : Int32 := WM μ n (rkF (odM μ n) n l + 1)
theorem wnF_c {μ : mm_M} {n l : Nat} (hl : l < n) : (wnF μ n).1 17 l = comeM μ n l := by
  obtain ⟨h1, h2⟩ := odM_rk (μ := μ) hl
  have e : (wnF μ n).1 17 = cmF (μ.1 17) (odM μ n) (WM μ n) n := by simp [wnF, shF, mm_set_1]
  rw [e]
  unfold comeM
  conv => lhs; rw [← h2]
  exact cmF_at odM_inj n (Nat.le_refl n) _ h1
theorem s_MwalkNow {d n : Nat} {P : mm_O} {μ : mm_M} (hT : okM μ n) : mm_run shM (d + 4) 104 [.ref 0] μ P = P (some (.int (WM μ n n))) (wnF μ n) := by
  obtain ⟨hc, hn, hg⟩ := hT
  rw [in_X7_walkNow]
  have c1 : (shF μ n).1 0 = μ.1 0 := by simp [shF, mm_set_1]
  simp only [qX7_walkNow_0, qX7_walkNow_1, qX7_walkNow_4, qX7_walkNow_5, qX7_walkNow_8, qX7_walkNow_9, qX7_walkNow_10, qX7_walkNow_11, qX7_walkNow_14, qX7_walkNow_17, s_MsetHeavy hn hc, Option.toList, List.cons_append, List.nil_append]
  rw [s_MputInOrder hn (by rw [c1]; exact hc)]
  have e2 : ∀ i, ordF ((shF μ n).1 16) n (μ.1 0 10) i = odM μ n i := fun i => by
    exact ordF_congr (fun l hl => by simp [shF, mm_set_1, hl]) i
  simp only [qX7_walkNow_0, qX7_walkNow_1, qX7_walkNow_4, qX7_walkNow_5, qX7_walkNow_8, qX7_walkNow_9, qX7_walkNow_10, qX7_walkNow_11, qX7_walkNow_14, qX7_walkNow_17, mm_set_1, c1, e2, hc, Nat.reduceEqDiff, if_false, Option.toList, List.cons_append, List.nil_append]
  rw [show (0 : Int32) = nI 0 from rfl, s_MwalkFrom (n := n) (od := odM μ n) (g := glF (μ.1 3)) hn (Nat.zero_le n) (Nat.le_refl n) (fun k hk => by simp [mm_set_1, hk]) (fun k hk => odM_lt hk) (fun l hl => by simp only [mm_set_1, shF, Nat.reduceEqDiff, if_false]; exact (hg l hl).1) (fun l hl => (hg l hl).2)]
  simp only [Nat.zero_add, Nat.sub_zero, qX7_walkNow_0, qX7_walkNow_1, qX7_walkNow_4, qX7_walkNow_5, qX7_walkNow_8, qX7_walkNow_9, qX7_walkNow_10, qX7_walkNow_11, qX7_walkNow_14, qX7_walkNow_17, Option.toList, List.cons_append, List.nil_append]
  rfl
/-- what is had of a letter, by the reference's rows -/
def hadM (μ : mm_M) (l : Nat) : Int32 := (if μ.1 17 l ≤ μ.1 5 l then μ.1 6 l else 0) - μ.1 0 9 * μ.1 7 l
theorem s_MhadOf {d l : Nat} {P : mm_O} {μ : mm_M} (hl : l < 7) : mm_run shM (d + 1) 105 [.ref 0, .int (nI l)] μ P = P (some (.int (hadM μ l))) μ := by
  have h2 : vp_in (nI l) 7 := vp_in_nI hl (by decide)
  have h3 : (nI l).toNatClampNeg = l := nI_clamp (by omega)
  rw [in_X7_hadOf]
  unfold hadM
  by_cases h : μ.1 17 l ≤ μ.1 5 l
  · simp [qX7_hadOf_0, qX7_hadOf_1, qX7_hadOf_4, qX7_hadOf_5, qX7_hadOf_6, qX7_hadOf_7, qX7_hadOf_10, qX7_hadOf_11, qX7_hadOf_12, qX7_hadOf_15, qX7_hadOf_16, qX7_hadOf_19, qX7_hadOf_20, qX7_hadOf_21, qX7_hadOf_24, qX7_hadOf_25, qX7_hadOf_26, qX7_hadOf_29, qX7_hadOf_30, qX7_hadOf_33, qX7_hadOf_34, qX7_hadOf_35, qX7_hadOf_36, qX7_hadOf_37, h2, h3, h, Int32.not_lt.mpr h]
  · simp [qX7_hadOf_0, qX7_hadOf_1, qX7_hadOf_4, qX7_hadOf_5, qX7_hadOf_6, qX7_hadOf_7, qX7_hadOf_10, qX7_hadOf_11, qX7_hadOf_12, qX7_hadOf_15, qX7_hadOf_16, qX7_hadOf_19, qX7_hadOf_20, qX7_hadOf_21, qX7_hadOf_24, qX7_hadOf_25, qX7_hadOf_26, qX7_hadOf_29, qX7_hadOf_30, qX7_hadOf_33, qX7_hadOf_34, qX7_hadOf_35, qX7_hadOf_36, qX7_hadOf_37, h2, h3, h, Int32.not_le.mp h]
theorem s_MhadAll_loop {d n : Nat} {P : mm_O} {μ : mm_M} (hn : n ≤ 7) (hc : μ.1 0 3 = nI n) (a1 : Value) : ∀ (j k : Nat), j + k = n → mm_at shM (d + 1) 106 [] P 9 [.ref 0, a1, .int (sumF (hadM μ) k), .int (nI k)] [] μ = P (some (.int (sumF (hadM μ) n))) μ := by
  intro j
  induction j with
  | zero =>
    intro k hk
    have hk : k = n := by omega
    subst hk
    simp [qX7_hadAll_0, qX7_hadAll_1, qX7_hadAll_4, qX7_hadAll_5, qX7_hadAll_6, qX7_hadAll_7, qX7_hadAll_8, qX7_hadAll_9, qX7_hadAll_10, qX7_hadAll_11, qX7_hadAll_14, qX7_hadAll_17, qX7_hadAll_18, qX7_hadAll_19, qX7_hadAll_20, qX7_hadAll_23, qX7_hadAll_24, qX7_hadAll_25, qX7_hadAll_28, qX7_hadAll_31, qX7_hadAll_32, hc]
  | succ j ih =>
    intro k hk
    have h1 : ¬ nI n ≤ nI k := nI_ge (by omega) (by omega)
    rw [qX7_hadAll_9]
    simp only [qX7_hadAll_0, qX7_hadAll_1, qX7_hadAll_4, qX7_hadAll_5, qX7_hadAll_6, qX7_hadAll_7, qX7_hadAll_8, qX7_hadAll_10, qX7_hadAll_11, qX7_hadAll_14, qX7_hadAll_17, qX7_hadAll_18, qX7_hadAll_19, qX7_hadAll_20, qX7_hadAll_23, qX7_hadAll_24, qX7_hadAll_25, qX7_hadAll_28, qX7_hadAll_31, qX7_hadAll_32, hc, h1, s_MhadOf (show k < 7 by omega), if_false, Option.toList, List.cons_append, List.nil_append, nI_1]
    exact ih (k + 1) (by omega)
theorem s_MhadAll {d n : Nat} {P : mm_O} {μ : mm_M} (hT : okM μ n) : mm_run shM (d + 5) 106 [.ref 0] μ P = P (some (.int (sumF (hadM (wnF μ n)) n))) (wnF μ n) := by
  rw [in_X7_hadAll]
  simp only [qX7_hadAll_0, qX7_hadAll_1, qX7_hadAll_4, qX7_hadAll_5, qX7_hadAll_6, qX7_hadAll_7, qX7_hadAll_8, qX7_hadAll_10, qX7_hadAll_11, qX7_hadAll_14, qX7_hadAll_17, qX7_hadAll_18, qX7_hadAll_19, qX7_hadAll_20, qX7_hadAll_23, qX7_hadAll_24, qX7_hadAll_25, qX7_hadAll_28, qX7_hadAll_31, qX7_hadAll_32, s_MwalkNow hT, Option.toList, List.cons_append, List.nil_append]
  exact s_MhadAll_loop hT.2.1 (by rw [wnF_o (by decide) (by decide) (by decide)]; exact hT.1) _ n 0 (by omega)
theorem s_MstonesAll_loop {d n : Nat} {P : mm_O} {μ : mm_M} (hn : n ≤ 7) (hc : μ.1 0 3 = nI n) : ∀ (j k : Nat), j + k = n → mm_at shM d 107 [] P 4 [.ref 0, .int (sumF (μ.1 7) k), .int (nI k)] [] μ = P (some (.int (sumF (μ.1 7) n))) μ := by
  intro j
  induction j with
  | zero =>
    intro k hk
    have hk : k = n := by omega
    subst hk
    simp [qX7_stonesAll_0, qX7_stonesAll_1, qX7_stonesAll_2, qX7_stonesAll_3, qX7_stonesAll_4, qX7_stonesAll_5, qX7_stonesAll_6, qX7_stonesAll_9, qX7_stonesAll_12, qX7_stonesAll_13, qX7_stonesAll_14, qX7_stonesAll_17, qX7_stonesAll_18, qX7_stonesAll_19, qX7_stonesAll_20, qX7_stonesAll_21, qX7_stonesAll_24, qX7_stonesAll_27, qX7_stonesAll_28, hc]
  | succ j ih =>
    intro k hk
    have h1 : ¬ nI n ≤ nI k := nI_ge (by omega) (by omega)
    have h2 : vp_in (nI k) 7 := vp_in_nI (by omega) (by decide)
    have h3 : (nI k).toNatClampNeg = k := nI_clamp (by omega)
    rw [qX7_stonesAll_4]
    simp only [qX7_stonesAll_0, qX7_stonesAll_1, qX7_stonesAll_2, qX7_stonesAll_3, qX7_stonesAll_5, qX7_stonesAll_6, qX7_stonesAll_9, qX7_stonesAll_12, qX7_stonesAll_13, qX7_stonesAll_14, qX7_stonesAll_17, qX7_stonesAll_18, qX7_stonesAll_19, qX7_stonesAll_20, qX7_stonesAll_21, qX7_stonesAll_24, qX7_stonesAll_27, qX7_stonesAll_28, hc, h1, h2, h3, true_and, if_false, nI_1]
    exact ih (k + 1) (by omega)
theorem s_MstonesAll {d n : Nat} {P : mm_O} {μ : mm_M} (hn : n ≤ 7) (hc : μ.1 0 3 = nI n) : mm_run shM (d + 1) 107 [.ref 0] μ P = P (some (.int (sumF (μ.1 7) n))) μ := by
  rw [in_X7_stonesAll]
  simp only [qX7_stonesAll_0, qX7_stonesAll_1, qX7_stonesAll_2, qX7_stonesAll_3, qX7_stonesAll_5, qX7_stonesAll_6, qX7_stonesAll_9, qX7_stonesAll_12, qX7_stonesAll_13, qX7_stonesAll_14, qX7_stonesAll_17, qX7_stonesAll_18, qX7_stonesAll_19, qX7_stonesAll_20, qX7_stonesAll_21, qX7_stonesAll_24, qX7_stonesAll_27, qX7_stonesAll_28]
  exact s_MstonesAll_loop hn hc n 0 (by omega)
theorem or_0 (x : Int32) : x ||| 0 = x := by
  refine b_ext fun i _ => ?_
  rw [b_or, b_0, Bool.or_false]
theorem s_MinTimeSet_loop {d n : Nat} {P : mm_O} {μ : mm_M} (hn : n ≤ 7) (hc : μ.1 0 3 = nI n) (a1 : Value) : ∀ (j k : Nat), j + k = n → mm_at shM d 108 [] P 9 [.ref 0, a1, .int (setF (fun l => decide (μ.1 17 l ≤ μ.1 5 l)) k), .int (nI k)] [] μ = P (some (.int (setF (fun l => decide (μ.1 17 l ≤ μ.1 5 l)) n))) μ := by
  intro j
  induction j with
  | zero =>
    intro k hk
    have hk : k = n := by omega
    subst hk
    simp [qX7_inTimeSet_0, qX7_inTimeSet_1, qX7_inTimeSet_4, qX7_inTimeSet_5, qX7_inTimeSet_6, qX7_inTimeSet_7, qX7_inTimeSet_8, qX7_inTimeSet_9, qX7_inTimeSet_10, qX7_inTimeSet_11, qX7_inTimeSet_14, qX7_inTimeSet_17, qX7_inTimeSet_18, qX7_inTimeSet_19, qX7_inTimeSet_22, qX7_inTimeSet_23, qX7_inTimeSet_24, qX7_inTimeSet_25, qX7_inTimeSet_28, qX7_inTimeSet_29, qX7_inTimeSet_30, qX7_inTimeSet_33, qX7_inTimeSet_34, qX7_inTimeSet_35, qX7_inTimeSet_36, qX7_inTimeSet_39, qX7_inTimeSet_40, qX7_inTimeSet_41, qX7_inTimeSet_42, qX7_inTimeSet_45, qX7_inTimeSet_48, qX7_inTimeSet_49, hc]
  | succ j ih =>
    intro k hk
    have h1 : ¬ nI n ≤ nI k := nI_ge (by omega) (by omega)
    have h2 : vp_in (nI k) 7 := vp_in_nI (by omega) (by decide)
    have h3 : (nI k).toNatClampNeg = k := nI_clamp (by omega)
    have e := ih (k + 1) (by omega)
    rw [qX7_inTimeSet_9]
    by_cases h : μ.1 17 k ≤ μ.1 5 k
    · rw [setF, if_pos (decide_eq_true h)] at e
      simp only [qX7_inTimeSet_0, qX7_inTimeSet_1, qX7_inTimeSet_4, qX7_inTimeSet_5, qX7_inTimeSet_6, qX7_inTimeSet_7, qX7_inTimeSet_8, qX7_inTimeSet_10, qX7_inTimeSet_11, qX7_inTimeSet_14, qX7_inTimeSet_17, qX7_inTimeSet_18, qX7_inTimeSet_19, qX7_inTimeSet_22, qX7_inTimeSet_23, qX7_inTimeSet_24, qX7_inTimeSet_25, qX7_inTimeSet_28, qX7_inTimeSet_29, qX7_inTimeSet_30, qX7_inTimeSet_33, qX7_inTimeSet_34, qX7_inTimeSet_35, qX7_inTimeSet_36, qX7_inTimeSet_39, qX7_inTimeSet_40, qX7_inTimeSet_41, qX7_inTimeSet_42, qX7_inTimeSet_45, qX7_inTimeSet_48, qX7_inTimeSet_49, hc, h1, h2, h3, Int32.not_lt.mpr h, true_and, if_false, nI_1]
      exact e
    · rw [setF, if_neg (by simp [h])] at e
      simp only [qX7_inTimeSet_0, qX7_inTimeSet_1, qX7_inTimeSet_4, qX7_inTimeSet_5, qX7_inTimeSet_6, qX7_inTimeSet_7, qX7_inTimeSet_8, qX7_inTimeSet_10, qX7_inTimeSet_11, qX7_inTimeSet_14, qX7_inTimeSet_17, qX7_inTimeSet_18, qX7_inTimeSet_19, qX7_inTimeSet_22, qX7_inTimeSet_23, qX7_inTimeSet_24, qX7_inTimeSet_25, qX7_inTimeSet_28, qX7_inTimeSet_29, qX7_inTimeSet_30, qX7_inTimeSet_33, qX7_inTimeSet_34, qX7_inTimeSet_35, qX7_inTimeSet_36, qX7_inTimeSet_39, qX7_inTimeSet_40, qX7_inTimeSet_41, qX7_inTimeSet_42, qX7_inTimeSet_45, qX7_inTimeSet_48, qX7_inTimeSet_49, hc, h1, h2, h3, Int32.not_le.mp h, true_and, if_true, if_false, nI_1, or_0]
      exact e
theorem s_MinTimeSet {d n : Nat} {P : mm_O} {μ : mm_M} (hT : okM μ n) : mm_run shM (d + 5) 108 [.ref 0] μ P = P (some (.int (setF (fun l => decide ((wnF μ n).1 17 l ≤ (wnF μ n).1 5 l)) n))) (wnF μ n) := by
  rw [in_X7_inTimeSet]
  simp only [qX7_inTimeSet_0, qX7_inTimeSet_1, qX7_inTimeSet_4, qX7_inTimeSet_5, qX7_inTimeSet_6, qX7_inTimeSet_7, qX7_inTimeSet_8, qX7_inTimeSet_10, qX7_inTimeSet_11, qX7_inTimeSet_14, qX7_inTimeSet_17, qX7_inTimeSet_18, qX7_inTimeSet_19, qX7_inTimeSet_22, qX7_inTimeSet_23, qX7_inTimeSet_24, qX7_inTimeSet_25, qX7_inTimeSet_28, qX7_inTimeSet_29, qX7_inTimeSet_30, qX7_inTimeSet_33, qX7_inTimeSet_34, qX7_inTimeSet_35, qX7_inTimeSet_36, qX7_inTimeSet_39, qX7_inTimeSet_40, qX7_inTimeSet_41, qX7_inTimeSet_42, qX7_inTimeSet_45, qX7_inTimeSet_48, qX7_inTimeSet_49, s_MwalkNow hT, Option.toList, List.cons_append, List.nil_append]
  exact s_MinTimeSet_loop hT.2.1 (by rw [wnF_o (by decide) (by decide) (by decide)]; exact hT.1) _ n 0 (by omega)
theorem s_MplaceIn_loop {d n l i : Nat} {P : mm_O} {μ : mm_M} {od : Nat → Nat} (hn : n ≤ 7) (hc : μ.1 0 3 = nI n) (hl : l < n) (hrow : ∀ k, k < n → μ.1 15 k = nI (od k)) (hod : ∀ k, k < n → od k < n) (hi : ∀ a b, a < n → b < n → od a = od b → a = b) (hin : i < n) (hil : od i = l) : ∀ (j k : Nat), j + k = n → mm_at shM d 111 [] P 4 [.ref 0, .int (nI l), .int (if i < k then nI i else -1), .int (nI k)] [] μ = P (some (.int (nI i))) μ := by
  intro j
  induction j with
  | zero =>
    intro k hk
    have hk : k = n := by omega
    subst hk
    rw [if_pos hin]
    simp [qX7_placeIn_0, qX7_placeIn_1, qX7_placeIn_2, qX7_placeIn_3, qX7_placeIn_4, qX7_placeIn_5, qX7_placeIn_6, qX7_placeIn_9, qX7_placeIn_12, qX7_placeIn_13, qX7_placeIn_16, qX7_placeIn_17, qX7_placeIn_18, qX7_placeIn_19, qX7_placeIn_22, qX7_placeIn_23, qX7_placeIn_26, qX7_placeIn_27, qX7_placeIn_28, qX7_placeIn_31, qX7_placeIn_34, qX7_placeIn_35, hc]
  | succ j ih =>
    intro k hk
    have h1 : ¬ nI n ≤ nI k := nI_ge (by omega) (by omega)
    have h2 : vp_in (nI k) 7 := vp_in_nI (by omega) (by decide)
    have h3 : (nI k).toNatClampNeg = k := nI_clamp (by omega)
    have e := ih (k + 1) (by omega)
    have h4 := hod k (by omega)
    rw [qX7_placeIn_4]
    by_cases h : od k = l
    · have hki := hi k i (by omega) hin (h.trans hil.symm)
      subst hki
      rw [if_pos (by omega)] at e
      simp only [qX7_placeIn_0, qX7_placeIn_1, qX7_placeIn_2, qX7_placeIn_3, qX7_placeIn_5, qX7_placeIn_6, qX7_placeIn_9, qX7_placeIn_12, qX7_placeIn_13, qX7_placeIn_16, qX7_placeIn_17, qX7_placeIn_18, qX7_placeIn_19, qX7_placeIn_22, qX7_placeIn_23, qX7_placeIn_26, qX7_placeIn_27, qX7_placeIn_28, qX7_placeIn_31, qX7_placeIn_34, qX7_placeIn_35, hc, h1, h2, h3, hrow k (by omega), h, true_and, if_true, if_false, nI_1]
      exact e
    · have hne : ¬ nI (od k) = nI l := fun q => h ((nI_eq (by omega) (by omega)).mp q)
      have hk2 : ¬ k = i := fun q => h (by rw [q, hil])
      have e2 : (if i < k + 1 then nI i else -1) = (if i < k then nI i else -1) := by
        by_cases h5 : i < k
        · rw [if_pos h5, if_pos (by omega)]
        · rw [if_neg h5, if_neg (by omega)]
      rw [e2] at e
      simp only [qX7_placeIn_0, qX7_placeIn_1, qX7_placeIn_2, qX7_placeIn_3, qX7_placeIn_5, qX7_placeIn_6, qX7_placeIn_9, qX7_placeIn_12, qX7_placeIn_13, qX7_placeIn_16, qX7_placeIn_17, qX7_placeIn_18, qX7_placeIn_19, qX7_placeIn_22, qX7_placeIn_23, qX7_placeIn_26, qX7_placeIn_27, qX7_placeIn_28, qX7_placeIn_31, qX7_placeIn_34, qX7_placeIn_35, hc, h1, h2, h3, hrow k (by omega), hne, true_and, if_false, nI_1]
      exact e
theorem s_MplaceIn {d n l i : Nat} {P : mm_O} {μ : mm_M} {od : Nat → Nat} (hn : n ≤ 7) (hc : μ.1 0 3 = nI n) (hl : l < n) (hrow : ∀ k, k < n → μ.1 15 k = nI (od k)) (hod : ∀ k, k < n → od k < n) (hi : ∀ a b, a < n → b < n → od a = od b → a = b) (hin : i < n) (hil : od i = l) : mm_run shM (d + 1) 111 [.ref 0, .int (nI l)] μ P = P (some (.int (nI i))) μ := by
  rw [in_X7_placeIn]
  simp only [qX7_placeIn_0, qX7_placeIn_1, qX7_placeIn_2, qX7_placeIn_3, qX7_placeIn_5, qX7_placeIn_6, qX7_placeIn_9, qX7_placeIn_12, qX7_placeIn_13, qX7_placeIn_16, qX7_placeIn_17, qX7_placeIn_18, qX7_placeIn_19, qX7_placeIn_22, qX7_placeIn_23, qX7_placeIn_26, qX7_placeIn_27, qX7_placeIn_28, qX7_placeIn_31, qX7_placeIn_34, qX7_placeIn_35]
  have e := s_MplaceIn_loop (d := d) (P := P) hn hc hl hrow hod hi hin hil n 0 (by omega)
  rw [if_neg (by omega)] at e
  exact e
