/-! THE ROUTE: lay, and what is read off it -/
def hvF (σ : mm_M) (S l : Nat) : Int32 := σ.1 15 l + σ.1 S l
def odF (σ : mm_M) (S n : Nat) : Nat → Nat := ordF (hvF σ S) n (σ.1 11 10)
def WF (σ : mm_M) (S n : Nat) : Nat → Int32 := wlkF (σ.1 12) (σ.1 13) (glF (σ.1 14)) (odF σ S n)
def layF (σ : mm_M) (r h o c S n : Nat) : mm_M := laidF (mm_set (mm_set σ h (fun l => if l < n then hvF σ S l else σ.1 h l)) o (fun i => if i < n then nI (odF σ S n i) else σ.1 o i)) r c (odF σ S n) (WF σ S n) n
/-- the town in the class's memory: n letters, each to a place that there is room for -/
def okT (σ : mm_M) (n : Nat) : Prop := σ.1 11 8 = nI n ∧ n ≤ 7 ∧ ∀ l, l < n → σ.1 14 l = nI (glF (σ.1 14) l) ∧ glF (σ.1 14) l < 7
/-- which place a letter has in an order -/
def rkF (od : Nat → Nat) : Nat → Nat → Nat
  | 0, _ => 0
  | k + 1, l => if od k = l then k else rkF od k l
theorem rkF_at {od : Nat → Nat} : ∀ {n i : Nat}, (∀ a b, a < n → b < n → od a = od b → a = b) → i < n → rkF od n (od i) = i
  | 0, i, _, h => by omega
  | n + 1, i, hi, h => by
    unfold rkF
    by_cases e : od n = od i
    · rw [if_pos e]
      exact hi n i (by omega) h e
    · rw [if_neg e]
      refine rkF_at (fun a b ha hb => hi a b (by omega) (by omega)) ?_
      rcases Nat.lt_or_ge i n with h2 | h2
      · exact h2
      · exact absurd (by rw [show i = n by omega]) e
theorem odF_lt {σ : mm_M} {S n k : Nat} (h : k < n) : odF σ S n k < n := ord_lt h
theorem odF_inj {σ : mm_M} {S n : Nat} : ∀ i j, i < n → j < n → odF σ S n i = odF σ S n j → i = j := fun _ _ h1 h2 h => ord_inj h1 h2 h
theorem odF_rk {σ : mm_M} {S n l : Nat} (h : l < n) : rkF (odF σ S n) n l < n ∧ odF σ S n (rkF (odF σ S n) n l) = l := by
  obtain ⟨k, hk, e⟩ := ord_onto (hv := hvF σ S) (law := σ.1 11 10) h
  have e2 : rkF (odF σ S n) n l = k := by
    rw [← e]
    exact rkF_at odF_inj hk
  rw [e2]
  exact ⟨hk, e⟩
theorem layF_o {σ : mm_M} {r h o c S n k : Nat} (h1 : k ≠ r) (h2 : k ≠ h) (h3 : k ≠ o) (h4 : k ≠ c) : (layF σ r h o c S n).1 k = σ.1 k := by
  simp [layF, laidF, mm_set_1, h1, h2, h3, h4]
theorem layF_2 {σ : mm_M} {r h o c S n : Nat} : (layF σ r h o c S n).2 = σ.2 := rfl
/-- the minute at which a letter comes -/
def comeF (σ : mm_M) (S n l : Nat) : Int32 := WF σ S n (rkF (odF σ S n) n l + 1)
theorem lay_r_19 {σ : mm_M} {S n : Nat} : (layF σ 19 20 21 22 S n).1 19 3 = WF σ S n n := by
  simp [layF, laidF, mm_set_1, upd_1]
theorem lay_h_19 {σ : mm_M} {S n l : Nat} (hl : l < n) : (layF σ 19 20 21 22 S n).1 20 l = hvF σ S l := by
  simp [layF, laidF, mm_set_1, hl]
theorem lay_o_19 {σ : mm_M} {S n k : Nat} (hk : k < n) : (layF σ 19 20 21 22 S n).1 21 k = nI (odF σ S n k) := by
  simp [layF, laidF, mm_set_1, hk]
theorem lay_c_19 {σ : mm_M} {S n l : Nat} (hl : l < n) : (layF σ 19 20 21 22 S n).1 22 l = comeF σ S n l := by
  obtain ⟨h1, h2⟩ := odF_rk (σ := σ) (S := S) hl
  have e : (layF σ 19 20 21 22 S n).1 22 = cmF (σ.1 22) (odF σ S n) (WF σ S n) n := by simp [layF, laidF, mm_set_1]
  rw [e]
  unfold comeF
  conv => lhs; rw [← h2]
  exact cmF_at odF_inj n (Nat.le_refl n) _ h1
theorem s_lay_19 {d n S : Nat} {P : mm_O} {σ : mm_M} (hS : shC[S]? = some (.inl (.int, 7))) (hT : okT σ n) (hSh : S ≠ 20) : mm_run shC (d + 4) 15 [.ref 19, .ref 11, .ref S] σ P = P none (layF σ 19 20 21 22 S n) := by
  obtain ⟨hc, hn, hg⟩ := hT
  rw [in_X2_lay]
  simp only [qX2_lay_0, qX2_lay_1, qX2_lay_2, qX2_lay_3a, qX2_lay_3b, qX2_lay_6, qX2_lay_7, qX2_lay_8a, qX2_lay_8b, qX2_lay_11, qX2_lay_12a, qX2_lay_12b, qX2_lay_15a, qX2_lay_15b, qX2_lay_18, qX2_lay_19, qX2_lay_20a, qX2_lay_20b, qX2_lay_23, s_weigh_19 hS hSh hn hc, Option.toList, List.cons_append, List.nil_append]
  have e1 : (mm_set σ 20 (fun l => if l < n then σ.1 15 l + σ.1 S l else σ.1 20 l)).1 11 = σ.1 11 := mm_set_ne _ _ (by decide)
  rw [e1, hc, s_sort_19 hn]
  simp only [qX2_lay_0, qX2_lay_1, qX2_lay_2, qX2_lay_3a, qX2_lay_3b, qX2_lay_6, qX2_lay_7, qX2_lay_8a, qX2_lay_8b, qX2_lay_11, qX2_lay_12a, qX2_lay_12b, qX2_lay_15a, qX2_lay_15b, qX2_lay_18, qX2_lay_19, qX2_lay_20a, qX2_lay_20b, qX2_lay_23, Option.toList, List.cons_append, List.nil_append]
  have e2 : ∀ i, ordF ((mm_set σ 20 (fun l => if l < n then σ.1 15 l + σ.1 S l else σ.1 20 l)).1 20) n (σ.1 11 10) i = odF σ S n i := fun i => ordF_congr (fun l hl => by rw [mm_set_same, if_pos hl]; rfl) i
  simp only [e2]
  rw [s_walk_19 (od := odF σ S n) (g := glF (σ.1 14)) hn (by simp [mm_set_1, hc]) (fun k hk => by simp [mm_set_1, hk]) (fun k hk => odF_lt hk) (fun l hl => by simp only [mm_set_1]; exact (hg l hl).1) (fun l hl => (hg l hl).2)]
  simp only [qX2_lay_0, qX2_lay_1, qX2_lay_2, qX2_lay_3a, qX2_lay_3b, qX2_lay_6, qX2_lay_7, qX2_lay_8a, qX2_lay_8b, qX2_lay_11, qX2_lay_12a, qX2_lay_12b, qX2_lay_15a, qX2_lay_15b, qX2_lay_18, qX2_lay_19, qX2_lay_20a, qX2_lay_20b, qX2_lay_23, Option.toList, List.cons_append, List.nil_append]
  rfl
theorem s_rankOf_19_loop {d n l : Nat} {P : mm_O} {σ : mm_M} {od : Nat → Nat} (hn : n ≤ 7) (hl : l < n) (hrow : ∀ k, k < n → σ.1 21 k = nI (od k)) (hod : ∀ k, k < n → od k < n) (hi : ∀ a b, a < n → b < n → od a = od b → a = b) {i : Nat} (hin : i < n) (hil : od i = l) : ∀ (j k : Nat), j + k = i → mm_at shC (d + 1) 19 [] P 2 [.ref 19, .int (nI l), .int (nI n), .int (nI k)] [] σ = P (some (.int (nI i))) σ := by
  intro j
  induction j with
  | zero =>
    intro k hk
    have hk : k = i := by omega
    subst hk
    have h1 : ¬ nI n ≤ nI k := nI_ge (by omega) (by omega)
    rw [qX2_rankOf_2]
    simp only [qX2_rankOf_0, qX2_rankOf_1, qX2_rankOf_3, qX2_rankOf_4, qX2_rankOf_7, qX2_rankOf_8a, qX2_rankOf_8b, qX2_rankOf_11, qX2_rankOf_12, qX2_rankOf_15, qX2_rankOf_16, qX2_rankOf_19, qX2_rankOf_20, qX2_rankOf_21, qX2_rankOf_24, qX2_rankOf_27, qX2_rankOf_28, h1, s_at_21, if_false, Option.toList, List.cons_append, List.nil_append]
    rw [atF_in _ (show k < 7 by omega) (by decide), hrow k hin, hil, if_pos rfl]
  | succ j ih =>
    intro k hk
    have h1 : ¬ nI n ≤ nI k := nI_ge (by omega) (by omega)
    rw [qX2_rankOf_2]
    simp only [qX2_rankOf_0, qX2_rankOf_1, qX2_rankOf_3, qX2_rankOf_4, qX2_rankOf_7, qX2_rankOf_8a, qX2_rankOf_8b, qX2_rankOf_11, qX2_rankOf_12, qX2_rankOf_15, qX2_rankOf_16, qX2_rankOf_19, qX2_rankOf_20, qX2_rankOf_21, qX2_rankOf_24, qX2_rankOf_27, qX2_rankOf_28, h1, s_at_21, if_false, Option.toList, List.cons_append, List.nil_append]
    have h2 := hod k (by omega)
    rw [atF_in _ (show k < 7 by omega) (by decide), hrow k (by omega), if_neg (fun q => by
      have h3 := (nI_eq (by omega) (by omega)).mp q
      have h4 := hi k i (by omega) hin (by rw [h3, hil])
      omega), nI_1]
    exact ih (k + 1) (by omega)
theorem s_rankOf_19 {d n l : Nat} {P : mm_O} {σ : mm_M} {od : Nat → Nat} (hn : n ≤ 7) (hl : l < n) (hrow : ∀ k, k < n → σ.1 21 k = nI (od k)) (hod : ∀ k, k < n → od k < n) (hi : ∀ a b, a < n → b < n → od a = od b → a = b) {i : Nat} (hin : i < n) (hil : od i = l) : mm_run shC (d + 2) 19 [.ref 19, .int (nI l), .int (nI n)] σ P = P (some (.int (nI i))) σ := by
  rw [in_X2_rankOf]
  simp only [qX2_rankOf_0, qX2_rankOf_1, qX2_rankOf_3, qX2_rankOf_4, qX2_rankOf_7, qX2_rankOf_8a, qX2_rankOf_8b, qX2_rankOf_11, qX2_rankOf_12, qX2_rankOf_15, qX2_rankOf_16, qX2_rankOf_19, qX2_rankOf_20, qX2_rankOf_21, qX2_rankOf_24, qX2_rankOf_27, qX2_rankOf_28]
  exact s_rankOf_19_loop hn hl hrow hod hi hin hil i 0 (by omega)
theorem s_isInTime_19 {d l : Nat} {P : mm_O} {σ : mm_M} (hl : l < 7) : mm_run shC (d + 2) 20 [.ref 19, .ref 11, .int (nI l)] σ P = P (some (.int (if σ.1 22 l ≤ σ.1 16 l then 1 else 0))) σ := by
  rw [in_X2_isInTime]
  simp only [qX2_isInTime_0, qX2_isInTime_1a, qX2_isInTime_1b, qX2_isInTime_4, qX2_isInTime_5, qX2_isInTime_8, qX2_isInTime_9a, qX2_isInTime_9b, qX2_isInTime_12, qX2_isInTime_13, qX2_isInTime_16, qX2_isInTime_19, qX2_isInTime_20, qX2_isInTime_23, qX2_isInTime_24, s_at_22, s_at_16, Option.toList, List.cons_append, List.nil_append]
  rw [atF_in _ hl (by decide), atF_in _ hl (by decide)]
  by_cases h : σ.1 22 l ≤ σ.1 16 l
  · simp [h, Int32.not_lt.mpr h]
  · simp [h, Int32.not_le.mp h]
theorem s_had_19 {d l : Nat} {P : mm_O} {σ : mm_M} {sc co : Int32} (hl : l < 7) : mm_run shC (d + 3) 22 [.ref 19, .ref 11, .int (nI l), .int sc, .int co] σ P = P (some (.int ((if σ.1 22 l ≤ σ.1 16 l then σ.1 17 l else 0) - co * sc))) σ := by
  rw [in_X2_had]
  simp only [qX2_had_0, qX2_had_1, qX2_had_2, qX2_had_3a, qX2_had_3b, qX2_had_6, qX2_had_9, qX2_had_10a, qX2_had_10b, qX2_had_13, qX2_had_14, qX2_had_17, qX2_had_20, qX2_had_21, qX2_had_23, qX2_had_24, qX2_had_25, qX2_had_26, s_isInTime_19 hl, s_at_17, Option.toList, List.cons_append, List.nil_append]
  rw [atF_in _ hl (by decide)]
  by_cases h : σ.1 22 l ≤ σ.1 16 l <;> simp [h]
theorem s_hadOfAll_19_loop {d n S : Nat} {P : mm_O} {σ : mm_M} (hS : shC[S]? = some (.inl (.int, 7))) (hn : n ≤ 7) (hc : σ.1 11 8 = nI n) : ∀ (j k : Nat), j + k = n → mm_at shC (d + 3) 23 [] P 5 [.ref 19, .ref 11, .ref S, .int (sumF (fun l => (if σ.1 22 l ≤ σ.1 16 l then σ.1 17 l else 0) - σ.1 11 9 * σ.1 S l) k), .int (nI k)] [] σ = P (some (.int (sumF (fun l => (if σ.1 22 l ≤ σ.1 16 l then σ.1 17 l else 0) - σ.1 11 9 * σ.1 S l) n))) σ := by
  intro j
  induction j with
  | zero =>
    intro k hk
    have hk : k = n := by omega
    subst hk
    simp [qX2_hadOfAll_0, qX2_hadOfAll_1, qX2_hadOfAll_2, qX2_hadOfAll_3, qX2_hadOfAll_5, qX2_hadOfAll_7, qX2_hadOfAll_8a, qX2_hadOfAll_8b, qX2_hadOfAll_11, qX2_hadOfAll_14, qX2_hadOfAll_15, qX2_hadOfAll_16, qX2_hadOfAll_17, qX2_hadOfAll_19, qX2_hadOfAll_20, qX2_hadOfAll_22, qX2_hadOfAll_25, qX2_hadOfAll_26a, qX2_hadOfAll_26b, qX2_hadOfAll_29a, qX2_hadOfAll_29b, qX2_hadOfAll_32, qX2_hadOfAll_33, qX2_hadOfAll_34, qX2_hadOfAll_37, qX2_hadOfAll_40, qX2_hadOfAll_41, hc]
  | succ j ih =>
    intro k hk
    have h1 : ¬ nI n ≤ nI k := nI_ge (by omega) (by omega)
    rw [qX2_hadOfAll_5]
    simp only [qX2_hadOfAll_0, qX2_hadOfAll_1, qX2_hadOfAll_2, qX2_hadOfAll_3, qX2_hadOfAll_7, qX2_hadOfAll_8a, qX2_hadOfAll_8b, qX2_hadOfAll_11, qX2_hadOfAll_14, qX2_hadOfAll_15, qX2_hadOfAll_16, qX2_hadOfAll_17, qX2_hadOfAll_19, qX2_hadOfAll_20, qX2_hadOfAll_22, qX2_hadOfAll_25, qX2_hadOfAll_26a, qX2_hadOfAll_26b, qX2_hadOfAll_29a, qX2_hadOfAll_29b, qX2_hadOfAll_32, qX2_hadOfAll_33, qX2_hadOfAll_34, qX2_hadOfAll_37, qX2_hadOfAll_40, qX2_hadOfAll_41, hc, h1, s_at hS (show 7 < 2 ^ 31 by decide), if_false, Option.toList, List.cons_append, List.nil_append]
    rw [atF_in _ (show k < 7 by omega) (by decide), s_had_19 (show k < 7 by omega)]
    simp only [qX2_hadOfAll_0, qX2_hadOfAll_1, qX2_hadOfAll_2, qX2_hadOfAll_3, qX2_hadOfAll_7, qX2_hadOfAll_8a, qX2_hadOfAll_8b, qX2_hadOfAll_11, qX2_hadOfAll_14, qX2_hadOfAll_15, qX2_hadOfAll_16, qX2_hadOfAll_17, qX2_hadOfAll_19, qX2_hadOfAll_20, qX2_hadOfAll_22, qX2_hadOfAll_25, qX2_hadOfAll_26a, qX2_hadOfAll_26b, qX2_hadOfAll_29a, qX2_hadOfAll_29b, qX2_hadOfAll_32, qX2_hadOfAll_33, qX2_hadOfAll_34, qX2_hadOfAll_37, qX2_hadOfAll_40, qX2_hadOfAll_41, Option.toList, List.cons_append, List.nil_append, nI_1]
    exact ih (k + 1) (by omega)
theorem s_hadOfAll_19 {d n S : Nat} {P : mm_O} {σ : mm_M} (hS : shC[S]? = some (.inl (.int, 7))) (hn : n ≤ 7) (hc : σ.1 11 8 = nI n) : mm_run shC (d + 4) 23 [.ref 19, .ref 11, .ref S] σ P = P (some (.int (sumF (fun l => (if σ.1 22 l ≤ σ.1 16 l then σ.1 17 l else 0) - σ.1 11 9 * σ.1 S l) n))) σ := by
  rw [in_X2_hadOfAll]
  simp only [qX2_hadOfAll_0, qX2_hadOfAll_1, qX2_hadOfAll_2, qX2_hadOfAll_3, qX2_hadOfAll_7, qX2_hadOfAll_8a, qX2_hadOfAll_8b, qX2_hadOfAll_11, qX2_hadOfAll_14, qX2_hadOfAll_15, qX2_hadOfAll_16, qX2_hadOfAll_17, qX2_hadOfAll_19, qX2_hadOfAll_20, qX2_hadOfAll_22, qX2_hadOfAll_25, qX2_hadOfAll_26a, qX2_hadOfAll_26b, qX2_hadOfAll_29a, qX2_hadOfAll_29b, qX2_hadOfAll_32, qX2_hadOfAll_33, qX2_hadOfAll_34, qX2_hadOfAll_37, qX2_hadOfAll_40, qX2_hadOfAll_41]
  exact s_hadOfAll_19_loop hS hn hc n 0 (by omega)
theorem lay_r_28 {σ : mm_M} {S n : Nat} : (layF σ 28 29 30 31 S n).1 28 3 = WF σ S n n := by
  simp [layF, laidF, mm_set_1, upd_1]
theorem lay_h_28 {σ : mm_M} {S n l : Nat} (hl : l < n) : (layF σ 28 29 30 31 S n).1 29 l = hvF σ S l := by
  simp [layF, laidF, mm_set_1, hl]
theorem lay_o_28 {σ : mm_M} {S n k : Nat} (hk : k < n) : (layF σ 28 29 30 31 S n).1 30 k = nI (odF σ S n k) := by
  simp [layF, laidF, mm_set_1, hk]
theorem lay_c_28 {σ : mm_M} {S n l : Nat} (hl : l < n) : (layF σ 28 29 30 31 S n).1 31 l = comeF σ S n l := by
  obtain ⟨h1, h2⟩ := odF_rk (σ := σ) (S := S) hl
  have e : (layF σ 28 29 30 31 S n).1 31 = cmF (σ.1 31) (odF σ S n) (WF σ S n) n := by simp [layF, laidF, mm_set_1]
  rw [e]
  unfold comeF
  conv => lhs; rw [← h2]
  exact cmF_at odF_inj n (Nat.le_refl n) _ h1
theorem s_lay_28 {d n S : Nat} {P : mm_O} {σ : mm_M} (hS : shC[S]? = some (.inl (.int, 7))) (hT : okT σ n) (hSh : S ≠ 29) : mm_run shC (d + 4) 15 [.ref 28, .ref 11, .ref S] σ P = P none (layF σ 28 29 30 31 S n) := by
  obtain ⟨hc, hn, hg⟩ := hT
  rw [in_X2_lay]
  simp only [qX2_lay_0, qX2_lay_1, qX2_lay_2, qX2_lay_3a, qX2_lay_3b, qX2_lay_6, qX2_lay_7, qX2_lay_8a, qX2_lay_8b, qX2_lay_11, qX2_lay_12a, qX2_lay_12b, qX2_lay_15a, qX2_lay_15b, qX2_lay_18, qX2_lay_19, qX2_lay_20a, qX2_lay_20b, qX2_lay_23, s_weigh_28 hS hSh hn hc, Option.toList, List.cons_append, List.nil_append]
  have e1 : (mm_set σ 29 (fun l => if l < n then σ.1 15 l + σ.1 S l else σ.1 29 l)).1 11 = σ.1 11 := mm_set_ne _ _ (by decide)
  rw [e1, hc, s_sort_28 hn]
  simp only [qX2_lay_0, qX2_lay_1, qX2_lay_2, qX2_lay_3a, qX2_lay_3b, qX2_lay_6, qX2_lay_7, qX2_lay_8a, qX2_lay_8b, qX2_lay_11, qX2_lay_12a, qX2_lay_12b, qX2_lay_15a, qX2_lay_15b, qX2_lay_18, qX2_lay_19, qX2_lay_20a, qX2_lay_20b, qX2_lay_23, Option.toList, List.cons_append, List.nil_append]
  have e2 : ∀ i, ordF ((mm_set σ 29 (fun l => if l < n then σ.1 15 l + σ.1 S l else σ.1 29 l)).1 29) n (σ.1 11 10) i = odF σ S n i := fun i => ordF_congr (fun l hl => by rw [mm_set_same, if_pos hl]; rfl) i
  simp only [e2]
  rw [s_walk_28 (od := odF σ S n) (g := glF (σ.1 14)) hn (by simp [mm_set_1, hc]) (fun k hk => by simp [mm_set_1, hk]) (fun k hk => odF_lt hk) (fun l hl => by simp only [mm_set_1]; exact (hg l hl).1) (fun l hl => (hg l hl).2)]
  simp only [qX2_lay_0, qX2_lay_1, qX2_lay_2, qX2_lay_3a, qX2_lay_3b, qX2_lay_6, qX2_lay_7, qX2_lay_8a, qX2_lay_8b, qX2_lay_11, qX2_lay_12a, qX2_lay_12b, qX2_lay_15a, qX2_lay_15b, qX2_lay_18, qX2_lay_19, qX2_lay_20a, qX2_lay_20b, qX2_lay_23, Option.toList, List.cons_append, List.nil_append]
  rfl
theorem s_rankOf_28_loop {d n l : Nat} {P : mm_O} {σ : mm_M} {od : Nat → Nat} (hn : n ≤ 7) (hl : l < n) (hrow : ∀ k, k < n → σ.1 30 k = nI (od k)) (hod : ∀ k, k < n → od k < n) (hi : ∀ a b, a < n → b < n → od a = od b → a = b) {i : Nat} (hin : i < n) (hil : od i = l) : ∀ (j k : Nat), j + k = i → mm_at shC (d + 1) 19 [] P 2 [.ref 28, .int (nI l), .int (nI n), .int (nI k)] [] σ = P (some (.int (nI i))) σ := by
  intro j
  induction j with
  | zero =>
    intro k hk
    have hk : k = i := by omega
    subst hk
    have h1 : ¬ nI n ≤ nI k := nI_ge (by omega) (by omega)
    rw [qX2_rankOf_2]
    simp only [qX2_rankOf_0, qX2_rankOf_1, qX2_rankOf_3, qX2_rankOf_4, qX2_rankOf_7, qX2_rankOf_8a, qX2_rankOf_8b, qX2_rankOf_11, qX2_rankOf_12, qX2_rankOf_15, qX2_rankOf_16, qX2_rankOf_19, qX2_rankOf_20, qX2_rankOf_21, qX2_rankOf_24, qX2_rankOf_27, qX2_rankOf_28, h1, s_at_30, if_false, Option.toList, List.cons_append, List.nil_append]
    rw [atF_in _ (show k < 7 by omega) (by decide), hrow k hin, hil, if_pos rfl]
  | succ j ih =>
    intro k hk
    have h1 : ¬ nI n ≤ nI k := nI_ge (by omega) (by omega)
    rw [qX2_rankOf_2]
    simp only [qX2_rankOf_0, qX2_rankOf_1, qX2_rankOf_3, qX2_rankOf_4, qX2_rankOf_7, qX2_rankOf_8a, qX2_rankOf_8b, qX2_rankOf_11, qX2_rankOf_12, qX2_rankOf_15, qX2_rankOf_16, qX2_rankOf_19, qX2_rankOf_20, qX2_rankOf_21, qX2_rankOf_24, qX2_rankOf_27, qX2_rankOf_28, h1, s_at_30, if_false, Option.toList, List.cons_append, List.nil_append]
    have h2 := hod k (by omega)
    rw [atF_in _ (show k < 7 by omega) (by decide), hrow k (by omega), if_neg (fun q => by
      have h3 := (nI_eq (by omega) (by omega)).mp q
      have h4 := hi k i (by omega) hin (by rw [h3, hil])
      omega), nI_1]
    exact ih (k + 1) (by omega)
theorem s_rankOf_28 {d n l : Nat} {P : mm_O} {σ : mm_M} {od : Nat → Nat} (hn : n ≤ 7) (hl : l < n) (hrow : ∀ k, k < n → σ.1 30 k = nI (od k)) (hod : ∀ k, k < n → od k < n) (hi : ∀ a b, a < n → b < n → od a = od b → a = b) {i : Nat} (hin : i < n) (hil : od i = l) : mm_run shC (d + 2) 19 [.ref 28, .int (nI l), .int (nI n)] σ P = P (some (.int (nI i))) σ := by
  rw [in_X2_rankOf]
  simp only [qX2_rankOf_0, qX2_rankOf_1, qX2_rankOf_3, qX2_rankOf_4, qX2_rankOf_7, qX2_rankOf_8a, qX2_rankOf_8b, qX2_rankOf_11, qX2_rankOf_12, qX2_rankOf_15, qX2_rankOf_16, qX2_rankOf_19, qX2_rankOf_20, qX2_rankOf_21, qX2_rankOf_24, qX2_rankOf_27, qX2_rankOf_28]
  exact s_rankOf_28_loop hn hl hrow hod hi hin hil i 0 (by omega)
theorem s_isInTime_28 {d l : Nat} {P : mm_O} {σ : mm_M} (hl : l < 7) : mm_run shC (d + 2) 20 [.ref 28, .ref 11, .int (nI l)] σ P = P (some (.int (if σ.1 31 l ≤ σ.1 16 l then 1 else 0))) σ := by
  rw [in_X2_isInTime]
  simp only [qX2_isInTime_0, qX2_isInTime_1a, qX2_isInTime_1b, qX2_isInTime_4, qX2_isInTime_5, qX2_isInTime_8, qX2_isInTime_9a, qX2_isInTime_9b, qX2_isInTime_12, qX2_isInTime_13, qX2_isInTime_16, qX2_isInTime_19, qX2_isInTime_20, qX2_isInTime_23, qX2_isInTime_24, s_at_31, s_at_16, Option.toList, List.cons_append, List.nil_append]
  rw [atF_in _ hl (by decide), atF_in _ hl (by decide)]
  by_cases h : σ.1 31 l ≤ σ.1 16 l
  · simp [h, Int32.not_lt.mpr h]
  · simp [h, Int32.not_le.mp h]
theorem s_had_28 {d l : Nat} {P : mm_O} {σ : mm_M} {sc co : Int32} (hl : l < 7) : mm_run shC (d + 3) 22 [.ref 28, .ref 11, .int (nI l), .int sc, .int co] σ P = P (some (.int ((if σ.1 31 l ≤ σ.1 16 l then σ.1 17 l else 0) - co * sc))) σ := by
  rw [in_X2_had]
  simp only [qX2_had_0, qX2_had_1, qX2_had_2, qX2_had_3a, qX2_had_3b, qX2_had_6, qX2_had_9, qX2_had_10a, qX2_had_10b, qX2_had_13, qX2_had_14, qX2_had_17, qX2_had_20, qX2_had_21, qX2_had_23, qX2_had_24, qX2_had_25, qX2_had_26, s_isInTime_28 hl, s_at_17, Option.toList, List.cons_append, List.nil_append]
  rw [atF_in _ hl (by decide)]
  by_cases h : σ.1 31 l ≤ σ.1 16 l <;> simp [h]
theorem s_hadOfAll_28_loop {d n S : Nat} {P : mm_O} {σ : mm_M} (hS : shC[S]? = some (.inl (.int, 7))) (hn : n ≤ 7) (hc : σ.1 11 8 = nI n) : ∀ (j k : Nat), j + k = n → mm_at shC (d + 3) 23 [] P 5 [.ref 28, .ref 11, .ref S, .int (sumF (fun l => (if σ.1 31 l ≤ σ.1 16 l then σ.1 17 l else 0) - σ.1 11 9 * σ.1 S l) k), .int (nI k)] [] σ = P (some (.int (sumF (fun l => (if σ.1 31 l ≤ σ.1 16 l then σ.1 17 l else 0) - σ.1 11 9 * σ.1 S l) n))) σ := by
  intro j
  induction j with
  | zero =>
    intro k hk
    have hk : k = n := by omega
    subst hk
    simp [qX2_hadOfAll_0, qX2_hadOfAll_1, qX2_hadOfAll_2, qX2_hadOfAll_3, qX2_hadOfAll_5, qX2_hadOfAll_7, qX2_hadOfAll_8a, qX2_hadOfAll_8b, qX2_hadOfAll_11, qX2_hadOfAll_14, qX2_hadOfAll_15, qX2_hadOfAll_16, qX2_hadOfAll_17, qX2_hadOfAll_19, qX2_hadOfAll_20, qX2_hadOfAll_22, qX2_hadOfAll_25, qX2_hadOfAll_26a, qX2_hadOfAll_26b, qX2_hadOfAll_29a, qX2_hadOfAll_29b, qX2_hadOfAll_32, qX2_hadOfAll_33, qX2_hadOfAll_34, qX2_hadOfAll_37, qX2_hadOfAll_40, qX2_hadOfAll_41, hc]
  | succ j ih =>
    intro k hk
    have h1 : ¬ nI n ≤ nI k := nI_ge (by omega) (by omega)
    rw [qX2_hadOfAll_5]
    simp only [qX2_hadOfAll_0, qX2_hadOfAll_1, qX2_hadOfAll_2, qX2_hadOfAll_3, qX2_hadOfAll_7, qX2_hadOfAll_8a, qX2_hadOfAll_8b, qX2_hadOfAll_11, qX2_hadOfAll_14, qX2_hadOfAll_15, qX2_hadOfAll_16, qX2_hadOfAll_17, qX2_hadOfAll_19, qX2_hadOfAll_20, qX2_hadOfAll_22, qX2_hadOfAll_25, qX2_hadOfAll_26a, qX2_hadOfAll_26b, qX2_hadOfAll_29a, qX2_hadOfAll_29b, qX2_hadOfAll_32, qX2_hadOfAll_33, qX2_hadOfAll_34, qX2_hadOfAll_37, qX2_hadOfAll_40, qX2_hadOfAll_41, hc, h1, s_at hS (show 7 < 2 ^ 31 by decide), if_false, Option.toList, List.cons_append, List.nil_append]
    rw [atF_in _ (show k < 7 by omega) (by decide), s_had_28 (show k < 7 by omega)]
    simp only [qX2_hadOfAll_0, qX2_hadOfAll_1, qX2_hadOfAll_2, qX2_hadOfAll_3, qX2_hadOfAll_7, qX2_hadOfAll_8a, qX2_hadOfAll_8b, qX2_hadOfAll_11, qX2_hadOfAll_14, qX2_hadOfAll_15, qX2_hadOfAll_16, qX2_hadOfAll_17, qX2_hadOfAll_19, qX2_hadOfAll_20, qX2_hadOfAll_22, qX2_hadOfAll_25, qX2_hadOfAll_26a, qX2_hadOfAll_26b, qX2_hadOfAll_29a, qX2_hadOfAll_29b, qX2_hadOfAll_32, qX2_hadOfAll_33, qX2_hadOfAll_34, qX2_hadOfAll_37, qX2_hadOfAll_40, qX2_hadOfAll_41, Option.toList, List.cons_append, List.nil_append, nI_1]
    exact ih (k + 1) (by omega)
theorem s_hadOfAll_28 {d n S : Nat} {P : mm_O} {σ : mm_M} (hS : shC[S]? = some (.inl (.int, 7))) (hn : n ≤ 7) (hc : σ.1 11 8 = nI n) : mm_run shC (d + 4) 23 [.ref 28, .ref 11, .ref S] σ P = P (some (.int (sumF (fun l => (if σ.1 31 l ≤ σ.1 16 l then σ.1 17 l else 0) - σ.1 11 9 * σ.1 S l) n))) σ := by
  rw [in_X2_hadOfAll]
  simp only [qX2_hadOfAll_0, qX2_hadOfAll_1, qX2_hadOfAll_2, qX2_hadOfAll_3, qX2_hadOfAll_7, qX2_hadOfAll_8a, qX2_hadOfAll_8b, qX2_hadOfAll_11, qX2_hadOfAll_14, qX2_hadOfAll_15, qX2_hadOfAll_16, qX2_hadOfAll_17, qX2_hadOfAll_19, qX2_hadOfAll_20, qX2_hadOfAll_22, qX2_hadOfAll_25, qX2_hadOfAll_26a, qX2_hadOfAll_26b, qX2_hadOfAll_29a, qX2_hadOfAll_29b, qX2_hadOfAll_32, qX2_hadOfAll_33, qX2_hadOfAll_34, qX2_hadOfAll_37, qX2_hadOfAll_40, qX2_hadOfAll_41]
  exact s_hadOfAll_28_loop hS hn hc n 0 (by omega)
/-- a set of letters, told bit by bit -/
def setF (p : Nat → Bool) : Nat → Int32
  | 0 => 0
  | k + 1 => if p k = true then setF p k ||| ((1 : Int32) <<< (nI k &&& 31)) else setF p k
theorem s_lettersInTime_loop {d n : Nat} {P : mm_O} {σ : mm_M} (hn : n ≤ 7) (hc : σ.1 11 8 = nI n) : ∀ (j k : Nat), j + k = n → mm_at shC (d + 2) 21 [] P 4 [.ref 19, .ref 11, .int (setF (fun l => decide (σ.1 22 l ≤ σ.1 16 l)) k), .int (nI k)] [] σ = P (some (.int (setF (fun l => decide (σ.1 22 l ≤ σ.1 16 l)) n))) σ := by
  intro j
  induction j with
  | zero =>
    intro k hk
    have hk : k = n := by omega
    subst hk
    simp [qX2_lettersInTime_0, qX2_lettersInTime_1, qX2_lettersInTime_2, qX2_lettersInTime_3, qX2_lettersInTime_4, qX2_lettersInTime_5, qX2_lettersInTime_6a, qX2_lettersInTime_6b, qX2_lettersInTime_9, qX2_lettersInTime_12, qX2_lettersInTime_13, qX2_lettersInTime_14, qX2_lettersInTime_15a, qX2_lettersInTime_15b, qX2_lettersInTime_18, qX2_lettersInTime_21, qX2_lettersInTime_22, qX2_lettersInTime_23, qX2_lettersInTime_24, qX2_lettersInTime_25, qX2_lettersInTime_26, qX2_lettersInTime_27, qX2_lettersInTime_30, qX2_lettersInTime_33, qX2_lettersInTime_34, hc]
  | succ j ih =>
    intro k hk
    have h1 : ¬ nI n ≤ nI k := nI_ge (by omega) (by omega)
    rw [qX2_lettersInTime_4]
    have e := ih (k + 1) (by omega)
    simp only [qX2_lettersInTime_0, qX2_lettersInTime_1, qX2_lettersInTime_2, qX2_lettersInTime_3, qX2_lettersInTime_5, qX2_lettersInTime_6a, qX2_lettersInTime_6b, qX2_lettersInTime_9, qX2_lettersInTime_12, qX2_lettersInTime_13, qX2_lettersInTime_14, qX2_lettersInTime_15a, qX2_lettersInTime_15b, qX2_lettersInTime_18, qX2_lettersInTime_21, qX2_lettersInTime_22, qX2_lettersInTime_23, qX2_lettersInTime_24, qX2_lettersInTime_25, qX2_lettersInTime_26, qX2_lettersInTime_27, qX2_lettersInTime_30, qX2_lettersInTime_33, qX2_lettersInTime_34, hc, h1, s_isInTime_19 (show k < 7 by omega), if_false, Option.toList, List.cons_append, List.nil_append, nI_1]
    by_cases h : σ.1 22 k ≤ σ.1 16 k
    · rw [setF, if_pos (decide_eq_true h)] at e
      simp only [h, if_true, show ¬ (1 : Int32) = 0 by decide, if_false]
      exact e
    · rw [setF, if_neg (by simp [h])] at e
      simp only [h, if_true, if_false]
      exact e
theorem s_lettersInTime {d n : Nat} {P : mm_O} {σ : mm_M} (hn : n ≤ 7) (hc : σ.1 11 8 = nI n) : mm_run shC (d + 3) 21 [.ref 19, .ref 11] σ P = P (some (.int (setF (fun l => decide (σ.1 22 l ≤ σ.1 16 l)) n))) σ := by
  rw [in_X2_lettersInTime]
  simp only [qX2_lettersInTime_0, qX2_lettersInTime_1, qX2_lettersInTime_2, qX2_lettersInTime_3, qX2_lettersInTime_5, qX2_lettersInTime_6a, qX2_lettersInTime_6b, qX2_lettersInTime_9, qX2_lettersInTime_12, qX2_lettersInTime_13, qX2_lettersInTime_14, qX2_lettersInTime_15a, qX2_lettersInTime_15b, qX2_lettersInTime_18, qX2_lettersInTime_21, qX2_lettersInTime_22, qX2_lettersInTime_23, qX2_lettersInTime_24, qX2_lettersInTime_25, qX2_lettersInTime_26, qX2_lettersInTime_27, qX2_lettersInTime_30, qX2_lettersInTime_33, qX2_lettersInTime_34]
  exact s_lettersInTime_loop hn hc n 0 (by omega)
/-- of two postmen, the first k letters the one's: the longer walk -/
def twoF (σ : mm_M) (S n k : Nat) : Int32 := if k < n then mm_max (WF σ S n k) (dstF (σ.1 12) (σ.1 13) 0 (glF (σ.1 14) (odF σ S n k)) + WF σ S n n - WF σ S n (k + 1)) else WF σ S n k
theorem s_longerOfTwo {d n S k : Nat} {P : mm_O} {σ : mm_M} (hT : okT σ n) (hk : k ≤ n) : mm_run shC (d + 3) 24 [.ref 19, .ref 11, .int (nI k)] (layF σ 19 20 21 22 S n) P = P (some (.int (twoF σ S n k))) (layF σ 19 20 21 22 S n) := by
  obtain ⟨hc, hn, hg⟩ := hT
  have e11 : (layF σ 19 20 21 22 S n).1 11 = σ.1 11 := layF_o (by decide) (by decide) (by decide) (by decide)
  have e14 : (layF σ 19 20 21 22 S n).1 14 = σ.1 14 := layF_o (by decide) (by decide) (by decide) (by decide)
  have e12 : (layF σ 19 20 21 22 S n).1 12 = σ.1 12 := layF_o (by decide) (by decide) (by decide) (by decide)
  have e13 : (layF σ 19 20 21 22 S n).1 13 = σ.1 13 := layF_o (by decide) (by decide) (by decide) (by decide)
  have hcome : ∀ i, i < n → (layF σ 19 20 21 22 S n).1 22 (odF σ S n i) = WF σ S n (i + 1) := fun i hi => by
    rw [lay_c_19 (odF_lt hi)]
    unfold comeF
    rw [rkF_at odF_inj hi]
  rw [in_X2_longerOfTwo]
  have one : ∀ R : Int32 → Prop, (if nI k ≤ 0 then R 0 else R (atF ((layF σ 19 20 21 22 S n).1 22) 7 (atF ((layF σ 19 20 21 22 S n).1 21) 7 (nI k - 1)))) = R (WF σ S n k) := by
    intro R
    cases k with
    | zero => rw [if_pos (by decide)]; rfl
    | succ k =>
      have ho : odF σ S n k < 7 := by have := odF_lt (σ := σ) (S := S) (show k < n by omega); omega
      rw [if_neg (nI_nle (by omega) (by omega)), nI_pred, atF_in _ (show k < 7 by omega) (by decide), lay_o_19 (by omega), atF_in _ ho (by decide), hcome k (by omega)]
  have two : ∀ x : Int32, (mm_at shC (d + 2) 24 [] P 25 [.ref 19, .ref 11, .int (nI k), .null, .null, .null] [.int x] (layF σ 19 20 21 22 S n)) = P (some (.int (if k < n then mm_max x (dstF (σ.1 12) (σ.1 13) 0 (glF (σ.1 14) (odF σ S n k)) + WF σ S n n - WF σ S n (k + 1)) else x))) (layF σ 19 20 21 22 S n) := by
    intro x
    by_cases h : k < n
    · have ho : odF σ S n k < 7 := by have := odF_lt (σ := σ) (S := S) h; omega
      have hgo := hg (odF σ S n k) (odF_lt h)
      simp only [qX2_longerOfTwo_0, qX2_longerOfTwo_1, qX2_longerOfTwo_4, qX2_longerOfTwo_5a, qX2_longerOfTwo_5b, qX2_longerOfTwo_8, qX2_longerOfTwo_9a, qX2_longerOfTwo_9b, qX2_longerOfTwo_12, qX2_longerOfTwo_13, qX2_longerOfTwo_14, qX2_longerOfTwo_15, qX2_longerOfTwo_18, qX2_longerOfTwo_21, qX2_longerOfTwo_24, qX2_longerOfTwo_25, qX2_longerOfTwo_26, qX2_longerOfTwo_27, qX2_longerOfTwo_28a, qX2_longerOfTwo_28b, qX2_longerOfTwo_31, qX2_longerOfTwo_34, qX2_longerOfTwo_35, qX2_longerOfTwo_36, qX2_longerOfTwo_37a, qX2_longerOfTwo_37b, qX2_longerOfTwo_40, qX2_longerOfTwo_41, qX2_longerOfTwo_44, qX2_longerOfTwo_46, qX2_longerOfTwo_47, qX2_longerOfTwo_48, qX2_longerOfTwo_49a, qX2_longerOfTwo_49b, qX2_longerOfTwo_52, qX2_longerOfTwo_54, qX2_longerOfTwo_57a, qX2_longerOfTwo_57b, qX2_longerOfTwo_60, qX2_longerOfTwo_61a, qX2_longerOfTwo_61b, qX2_longerOfTwo_64, qX2_longerOfTwo_65, qX2_longerOfTwo_66a, qX2_longerOfTwo_66b, qX2_longerOfTwo_69, qX2_longerOfTwo_71, qX2_longerOfTwo_74, qX2_longerOfTwo_75, qX2_longerOfTwo_77, qX2_longerOfTwo_78, qX2_longerOfTwo_80, qX2_longerOfTwo_83, e11, hc, nI_lt h (show n < 2 ^ 31 by omega), s_at_21, s_at_14, s_at_22, if_true, Option.toList, List.cons_append, List.nil_append]
      rw [atF_in _ (show k < 7 by omega) (by decide), lay_o_19 h, atF_in _ ho (by decide), e14, hgo.1, show (0 : Int32) = nI 0 from rfl, s_apart_n (by decide) hgo.2]
      simp only [qX2_longerOfTwo_0, qX2_longerOfTwo_1, qX2_longerOfTwo_4, qX2_longerOfTwo_5a, qX2_longerOfTwo_5b, qX2_longerOfTwo_8, qX2_longerOfTwo_9a, qX2_longerOfTwo_9b, qX2_longerOfTwo_12, qX2_longerOfTwo_13, qX2_longerOfTwo_14, qX2_longerOfTwo_15, qX2_longerOfTwo_18, qX2_longerOfTwo_21, qX2_longerOfTwo_24, qX2_longerOfTwo_25, qX2_longerOfTwo_26, qX2_longerOfTwo_27, qX2_longerOfTwo_28a, qX2_longerOfTwo_28b, qX2_longerOfTwo_31, qX2_longerOfTwo_34, qX2_longerOfTwo_35, qX2_longerOfTwo_36, qX2_longerOfTwo_37a, qX2_longerOfTwo_37b, qX2_longerOfTwo_40, qX2_longerOfTwo_41, qX2_longerOfTwo_44, qX2_longerOfTwo_46, qX2_longerOfTwo_47, qX2_longerOfTwo_48, qX2_longerOfTwo_49a, qX2_longerOfTwo_49b, qX2_longerOfTwo_52, qX2_longerOfTwo_54, qX2_longerOfTwo_57a, qX2_longerOfTwo_57b, qX2_longerOfTwo_60, qX2_longerOfTwo_61a, qX2_longerOfTwo_61b, qX2_longerOfTwo_64, qX2_longerOfTwo_65, qX2_longerOfTwo_66a, qX2_longerOfTwo_66b, qX2_longerOfTwo_69, qX2_longerOfTwo_71, qX2_longerOfTwo_74, qX2_longerOfTwo_75, qX2_longerOfTwo_77, qX2_longerOfTwo_78, qX2_longerOfTwo_80, qX2_longerOfTwo_83, s_at_22, lay_r_19, Option.toList, List.cons_append, List.nil_append]
      rw [atF_in _ ho (by decide), hcome k h, e12, e13, if_pos h]
    · simp only [qX2_longerOfTwo_0, qX2_longerOfTwo_1, qX2_longerOfTwo_4, qX2_longerOfTwo_5a, qX2_longerOfTwo_5b, qX2_longerOfTwo_8, qX2_longerOfTwo_9a, qX2_longerOfTwo_9b, qX2_longerOfTwo_12, qX2_longerOfTwo_13, qX2_longerOfTwo_14, qX2_longerOfTwo_15, qX2_longerOfTwo_18, qX2_longerOfTwo_21, qX2_longerOfTwo_24, qX2_longerOfTwo_25, qX2_longerOfTwo_26, qX2_longerOfTwo_27, qX2_longerOfTwo_28a, qX2_longerOfTwo_28b, qX2_longerOfTwo_31, qX2_longerOfTwo_34, qX2_longerOfTwo_35, qX2_longerOfTwo_36, qX2_longerOfTwo_37a, qX2_longerOfTwo_37b, qX2_longerOfTwo_40, qX2_longerOfTwo_41, qX2_longerOfTwo_44, qX2_longerOfTwo_46, qX2_longerOfTwo_47, qX2_longerOfTwo_48, qX2_longerOfTwo_49a, qX2_longerOfTwo_49b, qX2_longerOfTwo_52, qX2_longerOfTwo_54, qX2_longerOfTwo_57a, qX2_longerOfTwo_57b, qX2_longerOfTwo_60, qX2_longerOfTwo_61a, qX2_longerOfTwo_61b, qX2_longerOfTwo_64, qX2_longerOfTwo_65, qX2_longerOfTwo_66a, qX2_longerOfTwo_66b, qX2_longerOfTwo_69, qX2_longerOfTwo_71, qX2_longerOfTwo_74, qX2_longerOfTwo_75, qX2_longerOfTwo_77, qX2_longerOfTwo_78, qX2_longerOfTwo_80, qX2_longerOfTwo_83, e11, hc, nI_nlt (show n ≤ k by omega) (show k < 2 ^ 31 by omega), if_false]
      rw [if_neg h]
  simp only [qX2_longerOfTwo_0, qX2_longerOfTwo_1, qX2_longerOfTwo_4, qX2_longerOfTwo_5a, qX2_longerOfTwo_5b, qX2_longerOfTwo_8, qX2_longerOfTwo_9a, qX2_longerOfTwo_9b, qX2_longerOfTwo_12, qX2_longerOfTwo_13, qX2_longerOfTwo_14, qX2_longerOfTwo_15, qX2_longerOfTwo_18, qX2_longerOfTwo_21, qX2_longerOfTwo_24, qX2_longerOfTwo_26, qX2_longerOfTwo_27, qX2_longerOfTwo_28a, qX2_longerOfTwo_28b, qX2_longerOfTwo_31, qX2_longerOfTwo_34, qX2_longerOfTwo_35, qX2_longerOfTwo_36, qX2_longerOfTwo_37a, qX2_longerOfTwo_37b, qX2_longerOfTwo_40, qX2_longerOfTwo_41, qX2_longerOfTwo_44, qX2_longerOfTwo_46, qX2_longerOfTwo_47, qX2_longerOfTwo_48, qX2_longerOfTwo_49a, qX2_longerOfTwo_49b, qX2_longerOfTwo_52, qX2_longerOfTwo_54, qX2_longerOfTwo_57a, qX2_longerOfTwo_57b, qX2_longerOfTwo_60, qX2_longerOfTwo_61a, qX2_longerOfTwo_61b, qX2_longerOfTwo_64, qX2_longerOfTwo_65, qX2_longerOfTwo_66a, qX2_longerOfTwo_66b, qX2_longerOfTwo_69, qX2_longerOfTwo_71, qX2_longerOfTwo_74, qX2_longerOfTwo_75, qX2_longerOfTwo_77, qX2_longerOfTwo_78, qX2_longerOfTwo_80, qX2_longerOfTwo_83, s_at_21, s_at_22, Option.toList, List.cons_append, List.nil_append]
  rw [one (fun x => mm_at shC (d + 2) 24 [] P 25 [.ref 19, .ref 11, .int (nI k), .null, .null, .null] [.int x] (layF σ 19 20 21 22 S n)), two]
  rfl
