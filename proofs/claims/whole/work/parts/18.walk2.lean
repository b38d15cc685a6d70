/-! THE ROUTE: walk, lay, and what is read off it -/
def cmF (base : Nat → Int32) (od : Nat → Nat) (W : Nat → Int32) : Nat → Nat → Int32
  | 0 => base
  | k + 1 => upd (cmF base od W k) (od k) (W (k + 1))
theorem cmF_at {base : Nat → Int32} {od : Nat → Nat} {W : Nat → Int32} {n : Nat} (hi : ∀ i j, i < n → j < n → od i = od j → i = j) : ∀ k, k ≤ n → ∀ i, i < k → cmF base od W k (od i) = W (i + 1)
  | 0, _, i, h => by omega
  | k + 1, hk, i, h => by
    unfold cmF
    rw [upd_1]
    by_cases e : od i = od k
    · rw [if_pos e, hi i k (by omega) (by omega) e]
    · rw [if_neg e]
      refine cmF_at hi k (by omega) i ?_
      rcases Nat.lt_or_ge i k with h2 | h2
      · exact h2
      · exact absurd (by rw [show i = k by omega]) e
/-- the letters' places -/
def glF (f : Nat → Int32) (l : Nat) : Nat := (f l).toNatClampNeg
theorem pl7 {g od : Nat → Nat} {n k : Nat} (hg : ∀ l, l < n → g l < 7) (ho : ∀ i, i < n → od i < n) (hk : k ≤ n) : plcF g od k < 7 := by
  cases k with
  | zero => exact (by decide : 0 < 7)
  | succ k => exact hg _ (ho k (by omega))
def laidF (σ : mm_M) (r c : Nat) (od : Nat → Nat) (W : Nat → Int32) (k : Nat) : mm_M := mm_set (mm_set σ c (cmF (σ.1 c) od W k)) r (upd (σ.1 r) 3 (W k))
theorem s_walk_loop_19 {d n : Nat} {P : mm_O} {σ : mm_M} {od g : Nat → Nat} (hn : n ≤ 7) (hc : σ.1 11 8 = nI n) (hrow : ∀ k, k < n → σ.1 21 k = nI (od k)) (hod : ∀ k, k < n → od k < n) (hgl : ∀ l, l < n → σ.1 14 l = nI (g l)) (hg : ∀ l, l < n → g l < 7) : ∀ (j k : Nat) (a4 a5 : Value), j + k = n → mm_at shC (d + 2) 18 [] P 9 [.ref 19, .ref 11, .int (nI (plcF g od k)), .int (nI k), a4, a5] [] (laidF σ 19 22 od (wlkF (σ.1 12) (σ.1 13) g od) k) = P none (laidF σ 19 22 od (wlkF (σ.1 12) (σ.1 13) g od) n) := by
  intro j
  induction j with
  | zero =>
    intro k a4 a5 hk
    have hk : k = n := by omega
    subst hk
    simp [qX2_walk_0, qX2_walk_1, qX2_walk_2a, qX2_walk_2b, qX2_walk_5, qX2_walk_6, qX2_walk_7, qX2_walk_8, qX2_walk_9, qX2_walk_10, qX2_walk_11a, qX2_walk_11b, qX2_walk_14, qX2_walk_17, qX2_walk_18a, qX2_walk_18b, qX2_walk_21, qX2_walk_22, qX2_walk_25, qX2_walk_27, qX2_walk_28a, qX2_walk_28b, qX2_walk_31, qX2_walk_33, qX2_walk_36, qX2_walk_38, qX2_walk_39, qX2_walk_40a, qX2_walk_40b, qX2_walk_43, qX2_walk_44, qX2_walk_45, qX2_walk_47a, qX2_walk_47b, qX2_walk_50, qX2_walk_51a, qX2_walk_51b, qX2_walk_54, qX2_walk_55a, qX2_walk_55b, qX2_walk_58, qX2_walk_60, qX2_walk_61a, qX2_walk_61b, qX2_walk_64, qX2_walk_67, qX2_walk_69, qX2_walk_70, qX2_walk_73, qX2_walk_76, laidF, mm_set_1, hc]
  | succ j ih =>
    intro k a4 a5 hk
    have h1 : ¬ nI n ≤ nI k := nI_ge (by omega) (by omega)
    have e8 : (laidF σ 19 22 od (wlkF (σ.1 12) (σ.1 13) g od) k).1 11 8 = nI n := by simp [laidF, mm_set_1, hc]
    have eo : (laidF σ 19 22 od (wlkF (σ.1 12) (σ.1 13) g od) k).1 21 = σ.1 21 := by simp [laidF, mm_set_1]
    have eg : (laidF σ 19 22 od (wlkF (σ.1 12) (σ.1 13) g od) k).1 14 = σ.1 14 := by simp [laidF, mm_set_1]
    have ex : (laidF σ 19 22 od (wlkF (σ.1 12) (σ.1 13) g od) k).1 12 = σ.1 12 := by simp [laidF, mm_set_1]
    have ey : (laidF σ 19 22 od (wlkF (σ.1 12) (σ.1 13) g od) k).1 13 = σ.1 13 := by simp [laidF, mm_set_1]
    have em : (laidF σ 19 22 od (wlkF (σ.1 12) (σ.1 13) g od) k).1 19 3 = wlkF (σ.1 12) (σ.1 13) g od k := by simp [laidF, mm_set_1, upd_1]
    have hk7 : k < 7 := by omega
    have ho7 : od k < 7 := by have := hod k (by omega); omega
    have hp7 := pl7 hg hod (show k ≤ n by omega)
    have hq7 := hg (od k) (hod k (by omega))
    have hS : mm_set (mm_sti (laidF σ 19 22 od (wlkF (σ.1 12) (σ.1 13) g od) k) 19 3 (wlkF (σ.1 12) (σ.1 13) g od (k + 1))) 22 (upd ((mm_sti (laidF σ 19 22 od (wlkF (σ.1 12) (σ.1 13) g od) k) 19 3 (wlkF (σ.1 12) (σ.1 13) g od (k + 1))).1 22) (od k) (wlkF (σ.1 12) (σ.1 13) g od (k + 1))) = laidF σ 19 22 od (wlkF (σ.1 12) (σ.1 13) g od) (k + 1) := by
      refine mm_ext (fun i => ?_) rfl
      simp only [laidF, mm_sti_set, mm_set_1]
      by_cases h2 : i = 22
      · subst h2
        simp [cmF]
      · by_cases h3 : i = 19
        · subst h3
          funext q
          simp only [if_neg h2, if_true, upd_1]
          by_cases h4 : q = 3 <;> simp [h4]
        · simp [h2, h3]
    rw [qX2_walk_9]
    simp only [qX2_walk_0, qX2_walk_1, qX2_walk_2a, qX2_walk_2b, qX2_walk_5, qX2_walk_6, qX2_walk_7, qX2_walk_8, qX2_walk_10, qX2_walk_11a, qX2_walk_11b, qX2_walk_14, qX2_walk_17, qX2_walk_18a, qX2_walk_18b, qX2_walk_21, qX2_walk_22, qX2_walk_25, qX2_walk_27, qX2_walk_28a, qX2_walk_28b, qX2_walk_31, qX2_walk_33, qX2_walk_36, qX2_walk_38, qX2_walk_39, qX2_walk_40a, qX2_walk_40b, qX2_walk_43, qX2_walk_44, qX2_walk_45, qX2_walk_47a, qX2_walk_47b, qX2_walk_50, qX2_walk_51a, qX2_walk_51b, qX2_walk_54, qX2_walk_55a, qX2_walk_55b, qX2_walk_58, qX2_walk_60, qX2_walk_61a, qX2_walk_61b, qX2_walk_64, qX2_walk_67, qX2_walk_69, qX2_walk_70, qX2_walk_73, qX2_walk_76, h1, e8, eo, eg, s_at_21, s_at_14, if_false, Option.toList, List.cons_append, List.nil_append]
    rw [atF_in _ hk7 (by decide), hrow k (by omega), atF_in _ ho7 (by decide), hgl (od k) (hod k (by omega)), em, s_apart_n hp7 hq7, ex, ey]
    simp only [qX2_walk_0, qX2_walk_1, qX2_walk_2a, qX2_walk_2b, qX2_walk_5, qX2_walk_6, qX2_walk_7, qX2_walk_8, qX2_walk_10, qX2_walk_11a, qX2_walk_11b, qX2_walk_14, qX2_walk_17, qX2_walk_18a, qX2_walk_18b, qX2_walk_21, qX2_walk_22, qX2_walk_25, qX2_walk_27, qX2_walk_28a, qX2_walk_28b, qX2_walk_31, qX2_walk_33, qX2_walk_36, qX2_walk_38, qX2_walk_39, qX2_walk_40a, qX2_walk_40b, qX2_walk_43, qX2_walk_44, qX2_walk_45, qX2_walk_47a, qX2_walk_47b, qX2_walk_50, qX2_walk_51a, qX2_walk_51b, qX2_walk_54, qX2_walk_55a, qX2_walk_55b, qX2_walk_58, qX2_walk_60, qX2_walk_61a, qX2_walk_61b, qX2_walk_64, qX2_walk_67, qX2_walk_69, qX2_walk_70, qX2_walk_73, qX2_walk_76, Option.toList, List.cons_append, List.nil_append, s_put_22, nI_1]
    rw [putF_in _ _ ho7 (by decide)]
    rw [show wlkF (σ.1 12) (σ.1 13) g od k + dstF (σ.1 12) (σ.1 13) (plcF g od k) (g (od k)) = wlkF (σ.1 12) (σ.1 13) g od (k + 1) from rfl]
    have e3 : (mm_sti (laidF σ 19 22 od (wlkF (σ.1 12) (σ.1 13) g od) k) 19 3 (wlkF (σ.1 12) (σ.1 13) g od (k + 1))).1 19 3 = wlkF (σ.1 12) (σ.1 13) g od (k + 1) := by simp [mm_sti_set, mm_set_1, upd_1]
    rw [e3, hS]
    exact ih (k + 1) _ _ (by omega)
theorem s_walk_19 {d n : Nat} {P : mm_O} {σ : mm_M} {od g : Nat → Nat} (hn : n ≤ 7) (hc : σ.1 11 8 = nI n) (hrow : ∀ k, k < n → σ.1 21 k = nI (od k)) (hod : ∀ k, k < n → od k < n) (hgl : ∀ l, l < n → σ.1 14 l = nI (g l)) (hg : ∀ l, l < n → g l < 7) : mm_run shC (d + 3) 18 [.ref 19, .ref 11] σ P = P none (laidF σ 19 22 od (wlkF (σ.1 12) (σ.1 13) g od) n) := by
  rw [in_X2_walk]
  simp only [qX2_walk_0, qX2_walk_1, qX2_walk_2a, qX2_walk_2b, qX2_walk_5, qX2_walk_6, qX2_walk_7, qX2_walk_8, qX2_walk_10, qX2_walk_11a, qX2_walk_11b, qX2_walk_14, qX2_walk_17, qX2_walk_18a, qX2_walk_18b, qX2_walk_21, qX2_walk_22, qX2_walk_25, qX2_walk_27, qX2_walk_28a, qX2_walk_28b, qX2_walk_31, qX2_walk_33, qX2_walk_36, qX2_walk_38, qX2_walk_39, qX2_walk_40a, qX2_walk_40b, qX2_walk_43, qX2_walk_44, qX2_walk_45, qX2_walk_47a, qX2_walk_47b, qX2_walk_50, qX2_walk_51a, qX2_walk_51b, qX2_walk_54, qX2_walk_55a, qX2_walk_55b, qX2_walk_58, qX2_walk_60, qX2_walk_61a, qX2_walk_61b, qX2_walk_64, qX2_walk_67, qX2_walk_69, qX2_walk_70, qX2_walk_73, qX2_walk_76]
  have e := s_walk_loop_19 (d := d) (P := P) hn hc hrow hod hgl hg n 0 .null .null (by omega)
  have e2 : laidF σ 19 22 od (wlkF (σ.1 12) (σ.1 13) g od) 0 = mm_sti σ 19 3 0 := by
    unfold laidF cmF
    rw [mm_set_self]
    rfl
  rw [e2] at e
  exact e
theorem s_walk_loop_28 {d n : Nat} {P : mm_O} {σ : mm_M} {od g : Nat → Nat} (hn : n ≤ 7) (hc : σ.1 11 8 = nI n) (hrow : ∀ k, k < n → σ.1 30 k = nI (od k)) (hod : ∀ k, k < n → od k < n) (hgl : ∀ l, l < n → σ.1 14 l = nI (g l)) (hg : ∀ l, l < n → g l < 7) : ∀ (j k : Nat) (a4 a5 : Value), j + k = n → mm_at shC (d + 2) 18 [] P 9 [.ref 28, .ref 11, .int (nI (plcF g od k)), .int (nI k), a4, a5] [] (laidF σ 28 31 od (wlkF (σ.1 12) (σ.1 13) g od) k) = P none (laidF σ 28 31 od (wlkF (σ.1 12) (σ.1 13) g od) n) := by
  intro j
  induction j with
  | zero =>
    intro k a4 a5 hk
    have hk : k = n := by omega
    subst hk
    simp [qX2_walk_0, qX2_walk_1, qX2_walk_2a, qX2_walk_2b, qX2_walk_5, qX2_walk_6, qX2_walk_7, qX2_walk_8, qX2_walk_9, qX2_walk_10, qX2_walk_11a, qX2_walk_11b, qX2_walk_14, qX2_walk_17, qX2_walk_18a, qX2_walk_18b, qX2_walk_21, qX2_walk_22, qX2_walk_25, qX2_walk_27, qX2_walk_28a, qX2_walk_28b, qX2_walk_31, qX2_walk_33, qX2_walk_36, qX2_walk_38, qX2_walk_39, qX2_walk_40a, qX2_walk_40b, qX2_walk_43, qX2_walk_44, qX2_walk_45, qX2_walk_47a, qX2_walk_47b, qX2_walk_50, qX2_walk_51a, qX2_walk_51b, qX2_walk_54, qX2_walk_55a, qX2_walk_55b, qX2_walk_58, qX2_walk_60, qX2_walk_61a, qX2_walk_61b, qX2_walk_64, qX2_walk_67, qX2_walk_69, qX2_walk_70, qX2_walk_73, qX2_walk_76, laidF, mm_set_1, hc]
  | succ j ih =>
    intro k a4 a5 hk
    have h1 : ¬ nI n ≤ nI k := nI_ge (by omega) (by omega)
    have e8 : (laidF σ 28 31 od (wlkF (σ.1 12) (σ.1 13) g od) k).1 11 8 = nI n := by simp [laidF, mm_set_1, hc]
    have eo : (laidF σ 28 31 od (wlkF (σ.1 12) (σ.1 13) g od) k).1 30 = σ.1 30 := by simp [laidF, mm_set_1]
    have eg : (laidF σ 28 31 od (wlkF (σ.1 12) (σ.1 13) g od) k).1 14 = σ.1 14 := by simp [laidF, mm_set_1]
    have ex : (laidF σ 28 31 od (wlkF (σ.1 12) (σ.1 13) g od) k).1 12 = σ.1 12 := by simp [laidF, mm_set_1]
    have ey : (laidF σ 28 31 od (wlkF (σ.1 12) (σ.1 13) g od) k).1 13 = σ.1 13 := by simp [laidF, mm_set_1]
    have em : (laidF σ 28 31 od (wlkF (σ.1 12) (σ.1 13) g od) k).1 28 3 = wlkF (σ.1 12) (σ.1 13) g od k := by simp [laidF, mm_set_1, upd_1]
    have hk7 : k < 7 := by omega
    have ho7 : od k < 7 := by have := hod k (by omega); omega
    have hp7 := pl7 hg hod (show k ≤ n by omega)
    have hq7 := hg (od k) (hod k (by omega))
    have hS : mm_set (mm_sti (laidF σ 28 31 od (wlkF (σ.1 12) (σ.1 13) g od) k) 28 3 (wlkF (σ.1 12) (σ.1 13) g od (k + 1))) 31 (upd ((mm_sti (laidF σ 28 31 od (wlkF (σ.1 12) (σ.1 13) g od) k) 28 3 (wlkF (σ.1 12) (σ.1 13) g od (k + 1))).1 31) (od k) (wlkF (σ.1 12) (σ.1 13) g od (k + 1))) = laidF σ 28 31 od (wlkF (σ.1 12) (σ.1 13) g od) (k + 1) := by
      refine mm_ext (fun i => ?_) rfl
      simp only [laidF, mm_sti_set, mm_set_1]
      by_cases h2 : i = 31
      · subst h2
        simp [cmF]
      · by_cases h3 : i = 28
        · subst h3
          funext q
          simp only [if_neg h2, if_true, upd_1]
          by_cases h4 : q = 3 <;> simp [h4]
        · simp [h2, h3]
    rw [qX2_walk_9]
    simp only [qX2_walk_0, qX2_walk_1, qX2_walk_2a, qX2_walk_2b, qX2_walk_5, qX2_walk_6, qX2_walk_7, qX2_walk_8, qX2_walk_10, qX2_walk_11a, qX2_walk_11b, qX2_walk_14, qX2_walk_17, qX2_walk_18a, qX2_walk_18b, qX2_walk_21, qX2_walk_22, qX2_walk_25, qX2_walk_27, qX2_walk_28a, qX2_walk_28b, qX2_walk_31, qX2_walk_33, qX2_walk_36, qX2_walk_38, qX2_walk_39, qX2_walk_40a, qX2_walk_40b, qX2_walk_43, qX2_walk_44, qX2_walk_45, qX2_walk_47a, qX2_walk_47b, qX2_walk_50, qX2_walk_51a, qX2_walk_51b, qX2_walk_54, qX2_walk_55a, qX2_walk_55b, qX2_walk_58, qX2_walk_60, qX2_walk_61a, qX2_walk_61b, qX2_walk_64, qX2_walk_67, qX2_walk_69, qX2_walk_70, qX2_walk_73, qX2_walk_76, h1, e8, eo, eg, s_at_30, s_at_14, if_false, Option.toList, List.cons_append, List.nil_append]
    rw [atF_in _ hk7 (by decide), hrow k (by omega), atF_in _ ho7 (by decide), hgl (od k) (hod k (by omega)), em, s_apart_n hp7 hq7, ex, ey]
    simp only [qX2_walk_0, qX2_walk_1, qX2_walk_2a, qX2_walk_2b, qX2_walk_5, qX2_walk_6, qX2_walk_7, qX2_walk_8, qX2_walk_10, qX2_walk_11a, qX2_walk_11b, qX2_walk_14, qX2_walk_17, qX2_walk_18a, qX2_walk_18b, qX2_walk_21, qX2_walk_22, qX2_walk_25, qX2_walk_27, qX2_walk_28a, qX2_walk_28b, qX2_walk_31, qX2_walk_33, qX2_walk_36, qX2_walk_38, qX2_walk_39, qX2_walk_40a, qX2_walk_40b, qX2_walk_43, qX2_walk_44, qX2_walk_45, qX2_walk_47a, qX2_walk_47b, qX2_walk_50, qX2_walk_51a, qX2_walk_51b, qX2_walk_54, qX2_walk_55a, qX2_walk_55b, qX2_walk_58, qX2_walk_60, qX2_walk_61a, qX2_walk_61b, qX2_walk_64, qX2_walk_67, qX2_walk_69, qX2_walk_70, qX2_walk_73, qX2_walk_76, Option.toList, List.cons_append, List.nil_append, s_put_31, nI_1]
    rw [putF_in _ _ ho7 (by decide)]
    rw [show wlkF (σ.1 12) (σ.1 13) g od k + dstF (σ.1 12) (σ.1 13) (plcF g od k) (g (od k)) = wlkF (σ.1 12) (σ.1 13) g od (k + 1) from rfl]
    have e3 : (mm_sti (laidF σ 28 31 od (wlkF (σ.1 12) (σ.1 13) g od) k) 28 3 (wlkF (σ.1 12) (σ.1 13) g od (k + 1))).1 28 3 = wlkF (σ.1 12) (σ.1 13) g od (k + 1) := by simp [mm_sti_set, mm_set_1, upd_1]
    rw [e3, hS]
    exact ih (k + 1) _ _ (by omega)
theorem s_walk_28 {d n : Nat} {P : mm_O} {σ : mm_M} {od g : Nat → Nat} (hn : n ≤ 7) (hc : σ.1 11 8 = nI n) (hrow : ∀ k, k < n → σ.1 30 k = nI (od k)) (hod : ∀ k, k < n → od k < n) (hgl : ∀ l, l < n → σ.1 14 l = nI (g l)) (hg : ∀ l, l < n → g l < 7) : mm_run shC (d + 3) 18 [.ref 28, .ref 11] σ P = P none (laidF σ 28 31 od (wlkF (σ.1 12) (σ.1 13) g od) n) := by
  rw [in_X2_walk]
  simp only [qX2_walk_0, qX2_walk_1, qX2_walk_2a, qX2_walk_2b, qX2_walk_5, qX2_walk_6, qX2_walk_7, qX2_walk_8, qX2_walk_10, qX2_walk_11a, qX2_walk_11b, qX2_walk_14, qX2_walk_17, qX2_walk_18a, qX2_walk_18b, qX2_walk_21, qX2_walk_22, qX2_walk_25, qX2_walk_27, qX2_walk_28a, qX2_walk_28b, qX2_walk_31, qX2_walk_33, qX2_walk_36, qX2_walk_38, qX2_walk_39, qX2_walk_40a, qX2_walk_40b, qX2_walk_43, qX2_walk_44, qX2_walk_45, qX2_walk_47a, qX2_walk_47b, qX2_walk_50, qX2_walk_51a, qX2_walk_51b, qX2_walk_54, qX2_walk_55a, qX2_walk_55b, qX2_walk_58, qX2_walk_60, qX2_walk_61a, qX2_walk_61b, qX2_walk_64, qX2_walk_67, qX2_walk_69, qX2_walk_70, qX2_walk_73, qX2_walk_76]
  have e := s_walk_loop_28 (d := d) (P := P) hn hc hrow hod hgl hg n 0 .null .null (by omega)
  have e2 : laidF σ 28 31 od (wlkF (σ.1 12) (σ.1 13) g od) 0 = mm_sti σ 28 3 0 := by
    unfold laidF cmF
    rw [mm_set_self]
    rfl
  rw [e2] at e
  exact e
