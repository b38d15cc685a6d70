/-! CALLS: two -/
set_option maxRecDepth 100000 in
theorem dist99 : ∀ a, a < 100 → ∀ b, b < 100 → mm_abs (nI a - nI b) = nI (if a ≤ b then b - a else a - b) := by decide +kernel
theorem rg_dst {xs ys : Nat → Int32} {p q : Nat} (h1 : rg (xs p) 0 99) (h2 : rg (xs q) 0 99) (h3 : rg (ys p) 0 99) (h4 : rg (ys q) 0 99) : rg (dstF xs ys p q) 0 198 := by
  obtain ⟨a, -, a2, e1⟩ := h1
  obtain ⟨b, -, b2, e2⟩ := h2
  obtain ⟨c, -, c2, e3⟩ := h3
  obtain ⟨e, -, d2, e4⟩ := h4
  unfold dstF
  rw [e1, e2, e3, e4, dist99 a (by omega) b (by omega), dist99 c (by omega) e (by omega), nI_add]
  refine ⟨_, Nat.zero_le _, ?_, rfl⟩
  split <;> split <;> omega
theorem rg_wlk {xs ys : Nat → Int32} {g od : Nat → Nat} {n np : Nat} (h0 : 0 < n → 0 < np) (hx : ∀ p, p < np → rg (xs p) 0 99 ∧ rg (ys p) 0 99) (hg : ∀ l, l < n → g l < np) (ho : ∀ k, k < n → od k < n) : ∀ k, k ≤ n → rg (wlkF xs ys g od k) 0 (198 * k)
  | 0, _ => ⟨0, by omega, by omega, rfl⟩
  | k + 1, hk => by
    obtain ⟨a, -, a2, e1⟩ := rg_wlk h0 hx hg ho k (by omega)
    have hp : plcF g od k < np := by
      cases k with
      | zero => exact h0 (by omega)
      | succ k => exact hg _ (ho k (by omega))
    have hq := hg _ (ho k (by omega))
    obtain ⟨b, -, b2, e2⟩ := rg_dst (hx _ hp).1 (hx _ hq).1 (hx _ hp).2 (hx _ hq).2
    unfold wlkF
    rw [e1, e2, nI_add]
    exact ⟨a + b, by omega, by omega, rfl⟩
theorem i32_lc (a b c : Int32) : a + (b + c) = b + (a + c) := by rw [← Int32.add_assoc, Int32.add_comm a b, Int32.add_assoc]
theorem wlk_shift {xs ys : Nat → Int32} {g od : Nat → Nat} {k : Nat} : ∀ m, wlkF xs ys g (fun i => od (k + i)) (m + 1) = dstF xs ys 0 (g (od k)) + wlkF xs ys g od (k + 1 + m) - wlkF xs ys g od (k + 1)
  | 0 => by
    show 0 + dstF xs ys 0 (g (od (k + 0))) = _
    rw [Nat.add_zero, Nat.add_zero, Int32.zero_add, Int32.add_sub_cancel]
  | m + 1 => by
    have e := wlk_shift (xs := xs) (ys := ys) (g := g) (od := od) (k := k) m
    rw [show wlkF xs ys g (fun i => od (k + i)) (m + 1 + 1) = wlkF xs ys g (fun i => od (k + i)) (m + 1) + dstF xs ys (g (od (k + m))) (g (od (k + (m + 1)))) from rfl, e]
    rw [show k + 1 + (m + 1) = (k + 1 + m) + 1 by omega]
    rw [show wlkF xs ys g od (k + 1 + m + 1) = wlkF xs ys g od (k + 1 + m) + dstF xs ys (plcF g od (k + 1 + m)) (g (od (k + 1 + m))) from rfl]
    rw [show k + 1 + m = (k + m) + 1 by omega, show k + (m + 1) = (k + m) + 1 by omega]
    rw [show plcF g od (k + m + 1) = g (od (k + m)) from rfl]
    simp only [Int32.sub_eq_add_neg, Int32.add_assoc, Int32.add_comm, i32_lc]
section TW3
variable {σ μ : mm_M} {n np : Nat}
theorem TwR.rgW (h : TwR σ μ n np) {k : Nat} (hk : k ≤ n) : rg (WF σ 18 n k) 0 (198 * k) :=
  rg_wlk h.np0 (fun p hp => (h.2.2.1 p hp).2.2) (fun l hl => (h.gl hl).2.1) (fun k hk => odF_lt hk) k hk
end TW3
/-- the best number so far, and its value -/
def bsF (f : Nat → Int32) : Nat → Nat × Int32
  | 0 => (0, f 0)
  | k + 1 => if f (k + 1) < (bsF f k).2 then (k + 1, f (k + 1)) else bsF f k
theorem two_loop {d n : Nat} {P : mm_O} {σ : mm_M} {w : Int32} (hT : okT σ n) : ∀ (j k : Nat) (a5 : Value), j + k = n → mm_at shC (d + 3) 64 [] P 48 [.ref 0, .int w, .int (nI (bsF (twoF σ 18 n) k).1), .int (bsF (twoF σ 18 n) k).2, .int (nI (k + 1)), a5] [] (layF σ 19 20 21 22 18 n) = P (some (.int (if w = 0 then nI (bsF (twoF σ 18 n) n).1 else (bsF (twoF σ 18 n) n).2))) (layF σ 19 20 21 22 18 n) := by
  have e11 : (layF σ 19 20 21 22 18 n).1 11 8 = nI n := by rw [layF_o (by decide) (by decide) (by decide) (by decide)]; exact hT.1
  have hn := hT.2.1
  intro j
  induction j with
  | zero =>
    intro k a5 hk
    have hk : k = n := by omega
    subst hk
    rw [qX6_two_48]
    simp only [qX6_two_0, qX6_two_1, qX6_two_4, qX6_two_5, qX6_two_6, qX6_two_9, qX6_two_11, qX6_two_12, qX6_two_13, qX6_two_16, qX6_two_17, qX6_two_20, qX6_two_21, qX6_two_24, qX6_two_27, qX6_two_30, qX6_two_31, qX6_two_32, qX6_two_33, qX6_two_36, qX6_two_37, qX6_two_40, qX6_two_41, qX6_two_44, qX6_two_45, qX6_two_46, qX6_two_50, qX6_two_51, qX6_two_54, qX6_two_57, qX6_two_60, qX6_two_61, qX6_two_64, qX6_two_65, qX6_two_68, qX6_two_70, qX6_two_73, qX6_two_75, qX6_two_77, qX6_two_78, qX6_two_81, qX6_two_83, qX6_two_84, qX6_two_86, qX6_two_87, qX6_two_90, qX6_two_93, qX6_two_94, qX6_two_97, qX6_two_98, qX6_two_101, qX6_two_102, e11, show nI k < nI (k + 1) from nI_lt (by omega) (by omega), if_true]
    by_cases hw : w = 0 <;> simp [hw]
  | succ j ih =>
    intro k a5 hk
    have h1 : ¬ nI n < nI (k + 1) := nI_nlt (by omega) (by omega)
    rw [qX6_two_48]
    simp only [qX6_two_0, qX6_two_1, qX6_two_4, qX6_two_5, qX6_two_6, qX6_two_9, qX6_two_11, qX6_two_12, qX6_two_13, qX6_two_16, qX6_two_17, qX6_two_20, qX6_two_21, qX6_two_24, qX6_two_27, qX6_two_30, qX6_two_31, qX6_two_32, qX6_two_33, qX6_two_36, qX6_two_37, qX6_two_40, qX6_two_41, qX6_two_44, qX6_two_45, qX6_two_46, qX6_two_50, qX6_two_51, qX6_two_54, qX6_two_57, qX6_two_60, qX6_two_61, qX6_two_64, qX6_two_65, qX6_two_68, qX6_two_70, qX6_two_73, qX6_two_75, qX6_two_77, qX6_two_78, qX6_two_81, qX6_two_83, qX6_two_84, qX6_two_86, qX6_two_87, qX6_two_90, qX6_two_93, qX6_two_94, qX6_two_97, qX6_two_98, qX6_two_101, qX6_two_102, e11, h1, if_false, s_longerOfTwo hT (show k + 1 ≤ n by omega), Option.toList, List.cons_append, List.nil_append, nI_1]
    have e := ih (k + 1) (.int (twoF σ 18 n (k + 1))) (by omega)
    by_cases hc : (bsF (twoF σ 18 n) k).2 ≤ twoF σ 18 n (k + 1)
    · rw [bsF, if_neg (Int32.not_lt.mpr hc)] at e
      rw [if_pos hc]
      exact e
    · rw [bsF, if_pos (Int32.not_le.mp hc)] at e
      rw [if_neg hc]
      exact e
/-- the reference's two walks -/
theorem two_eq {σ μ : mm_M} {n np k : Nat} (h : TwR σ μ n np) (hk : k ≤ n) (x y : Int32) (hx : x = wlkF (μ.1 1) (μ.1 2) (glF (μ.1 3)) (fun i => odM μ n (0 + i)) (k - 0)) (hy : y = wlkF (μ.1 1) (μ.1 2) (glF (μ.1 3)) (fun i => odM μ n (k + i)) (n - k)) : (if x ≤ y then y else x) = twoF σ 18 n k := by
  have hx : x = WF σ 18 n k := by
    rw [hx, Nat.sub_zero]
    simp only [Nat.zero_add]
    exact (h.W hk).symm
  unfold twoF
  by_cases hlt : k < n
  · rw [if_pos hlt]
    have hy : y = dstF (σ.1 12) (σ.1 13) 0 (glF (σ.1 14) (odF σ 18 n k)) + WF σ 18 n n - WF σ 18 n (k + 1) := by
      rw [hy, show n - k = (n - k - 1) + 1 by omega, wlk_shift, show k + 1 + (n - k - 1) = n by omega]
      have w1 := h.W (Nat.le_refl n)
      have w2 := h.W (show k + 1 ≤ n by omega)
      unfold WM at w1 w2
      rw [← w1, ← w2, ← h.od k]
      have g1 := h.gl (odF_lt (σ := σ) (S := 18) hlt)
      rw [← g1.2.2]
      unfold dstF
      have p0 := h.2.2.1 0 (h.np0 (by omega))
      have p1 := h.2.2.1 _ g1.2.1
      rw [p0.1, p0.2.1, p1.1, p1.2.1]
    rw [← hy, ← hx]
    unfold mm_max
    by_cases hc : x < y
    · rw [if_pos (Int32.le_of_lt hc), if_pos hc]
    · rw [if_neg hc]
      by_cases hc2 : x ≤ y
      · rw [if_pos hc2]
        exact Int32.le_antisymm (Int32.not_lt.mp hc) hc2
      · rw [if_neg hc2]
  · rw [if_neg hlt]
    have hkn : k = n := by omega
    subst hkn
    have hy : y = 0 := by rw [hy, Nat.sub_self]; rfl
    obtain ⟨a, -, a2, ea⟩ := h.rgW (Nat.le_refl k)
    have hk7 := h.2.1.2.2
    rw [hy, hx, ea]
    by_cases hc : nI a ≤ 0
    · rw [if_pos hc]
      rcases Nat.eq_zero_or_pos a with e | e
      · subst e; rfl
      · exact absurd hc (nI_nle e (by omega))
    · rw [if_neg hc]
def msF (f : Nat → Int32) : Nat → Nat × Int32
  | 0 => (0, 1000000000)
  | k + 1 => bsF f k
theorem ms_step {f : Nat → Int32} (h0 : f 0 < 1000000000) (k : Nat) : msF f (k + 1) = if f k < (msF f k).2 then (k, f k) else msF f k := by
  cases k with
  | zero => rw [if_pos (show f 0 < (msF f 0).2 from h0)]; rfl
  | succ k => rfl
theorem Mtwo_loop {σ μ : mm_M} {n np : Nat} {w : Int32} {a2 : Value} (h : TwR σ μ n np) (h0 : twoF σ 18 n 0 < 1000000000) : ∀ (j k : Nat) (ν : mm_M) (a6 a7 a8 : Value), j + k = n + 1 → (∀ i, i ≠ 17 → ν.1 i = (wnF μ n).1 i) → ∃ ν', (∀ i, i ≠ 17 → ν'.1 i = (wnF μ n).1 i) ∧ ∀ (d : Nat) (P : mm_O), mm_at shM (d + 3) 134 [] P 28 [.ref 0, .int w, a2, .int (nI (msF (twoF σ 18 n) k).1), .int (msF (twoF σ 18 n) k).2, .int (nI k), a6, a7, a8] [] ν = P (some (.int (if w = 0 then nI (bsF (twoF σ 18 n) n).1 else (bsF (twoF σ 18 n) n).2))) ν' := by
  have hM := h.okM
  have hn := hM.2.1
  have w0 : (wnF μ n).1 0 3 = nI n := by rw [wnF_o (by decide) (by decide) (by decide)]; exact hM.1
  have w1 : (wnF μ n).1 1 = μ.1 1 := wnF_o (by decide) (by decide) (by decide)
  have w2 : (wnF μ n).1 2 = μ.1 2 := wnF_o (by decide) (by decide) (by decide)
  have w3 : (wnF μ n).1 3 = μ.1 3 := wnF_o (by decide) (by decide) (by decide)
  intro j
  induction j with
  | zero =>
    intro k ν a6 a7 a8 hk hν
    have hk : k = n + 1 := by omega
    subst hk
    refine ⟨ν, hν, fun d P => ?_⟩
    rw [qX7_two_28]
    simp only [qX7_two_0, qX7_two_1, qX7_two_2, qX7_two_3, qX7_two_4, qX7_two_7, qX7_two_10, qX7_two_12, qX7_two_13, qX7_two_14, qX7_two_17, qX7_two_18, qX7_two_19, qX7_two_20, qX7_two_23, qX7_two_25, qX7_two_26, qX7_two_30, qX7_two_31, qX7_two_34, qX7_two_37, qX7_two_38, qX7_two_39, qX7_two_41, qX7_two_44, qX7_two_46, qX7_two_47, qX7_two_49, qX7_two_50, qX7_two_53, qX7_two_56, qX7_two_58, qX7_two_60, qX7_two_62, qX7_two_65, qX7_two_67, qX7_two_70, qX7_two_72, qX7_two_74, qX7_two_76, qX7_two_78, qX7_two_81, qX7_two_83, qX7_two_86, qX7_two_87, qX7_two_88, qX7_two_90, qX7_two_92, qX7_two_95, qX7_two_97, qX7_two_100, qX7_two_102, qX7_two_104, qX7_two_107, qX7_two_110, qX7_two_111, qX7_two_114, qX7_two_115, qX7_two_118, qX7_two_120, hν 0 (by decide), w0, show nI n < nI (n + 1) from nI_lt (by omega) (by omega), if_true]
    by_cases hw : w = 0 <;> simp [hw, msF]
  | succ j ih =>
    intro k ν a6 a7 a8 hk hν
    have h1 : ¬ nI n < nI k := nI_nlt (by omega) (by omega)
    have hrow : ∀ ν2 : mm_M, (∀ i, i ≠ 17 → ν2.1 i = (wnF μ n).1 i) → (∀ q, q < n → ν2.1 15 q = nI (odM μ n q)) ∧ (∀ l, l < n → ν2.1 3 l = nI (glF (μ.1 3) l)) := fun ν2 h2 => ⟨fun q hq => by rw [h2 15 (by decide), wnF_row hq], fun l hl => by rw [h2 3 (by decide), w3]; exact (hM.2.2 l hl).1⟩
    obtain ⟨r1, r2⟩ := hrow ν hν
    have f1 := fun (d : Nat) (P : mm_O) => s_MwalkFrom (d := d) (P := P) (μ := ν) (f := 0) (m := k) (od := odM μ n) (g := glF (μ.1 3)) hn (by omega) (by omega) r1 (fun q hq => odM_lt hq) r2 (fun l hl => (hM.2.2 l hl).2)
    generalize hν1 : mm_set ν 17 (cmF (ν.1 17) (fun i => odM μ n (0 + i)) (wlkF (ν.1 1) (ν.1 2) (glF (μ.1 3)) (fun i => odM μ n (0 + i))) (k - 0)) = ν1 at f1
    have k1 : ∀ i, i ≠ 17 → ν1.1 i = (wnF μ n).1 i := fun i hi => by rw [← hν1, mm_set_ne _ _ hi]; exact hν i hi
    obtain ⟨r3, r4⟩ := hrow ν1 k1
    have f2 := fun (d : Nat) (P : mm_O) => s_MwalkFrom (d := d) (P := P) (μ := ν1) (f := k) (m := n) (od := odM μ n) (g := glF (μ.1 3)) hn (by omega) (Nat.le_refl n) r3 (fun q hq => odM_lt hq) r4 (fun l hl => (hM.2.2 l hl).2)
    generalize hν2 : mm_set ν1 17 (cmF (ν1.1 17) (fun i => odM μ n (k + i)) (wlkF (ν1.1 1) (ν1.1 2) (glF (μ.1 3)) (fun i => odM μ n (k + i))) (n - k)) = ν2 at f2
    have k2 : ∀ i, i ≠ 17 → ν2.1 i = (wnF μ n).1 i := fun i hi => by rw [← hν2, mm_set_ne _ _ hi]; exact k1 i hi
    rw [hν 1 (by decide), hν 2 (by decide), w1, w2] at f1
    rw [k1 1 (by decide), k1 2 (by decide), w1, w2] at f2
    have he := two_eq h (show k ≤ n by omega) _ _ rfl rfl
    generalize wlkF (μ.1 1) (μ.1 2) (glF (μ.1 3)) (fun i => odM μ n (0 + i)) (k - 0) = x at f1 he
    generalize wlkF (μ.1 1) (μ.1 2) (glF (μ.1 3)) (fun i => odM μ n (k + i)) (n - k) = y at f2 he
    obtain ⟨ν', i1, i2⟩ := ih (k + 1) ν2 (.int x) (.int y) (.int (twoF σ 18 n k)) (by omega) k2
    refine ⟨ν', i1, fun d P => ?_⟩
    rw [← i2 d P, ms_step h0]
    have t0 : (ν1.1 0 3) = nI n := by rw [k1 0 (by decide), w0]
    rw [qX7_two_28]
    simp only [qX7_two_0, qX7_two_1, qX7_two_2, qX7_two_3, qX7_two_4, qX7_two_7, qX7_two_10, qX7_two_12, qX7_two_13, qX7_two_14, qX7_two_17, qX7_two_18, qX7_two_19, qX7_two_20, qX7_two_23, qX7_two_25, qX7_two_26, qX7_two_30, qX7_two_31, qX7_two_34, qX7_two_37, qX7_two_38, qX7_two_39, qX7_two_41, qX7_two_44, qX7_two_46, qX7_two_47, qX7_two_49, qX7_two_50, qX7_two_53, qX7_two_56, qX7_two_58, qX7_two_60, qX7_two_62, qX7_two_65, qX7_two_67, qX7_two_70, qX7_two_72, qX7_two_74, qX7_two_76, qX7_two_78, qX7_two_81, qX7_two_83, qX7_two_86, qX7_two_87, qX7_two_88, qX7_two_90, qX7_two_92, qX7_two_95, qX7_two_97, qX7_two_100, qX7_two_102, qX7_two_104, qX7_two_107, qX7_two_110, qX7_two_111, qX7_two_114, qX7_two_115, qX7_two_118, qX7_two_120, hν 0 (by decide), w0, h1, if_false, show (0 : Int32) = nI 0 from rfl, f1, t0, f2, Option.toList, List.cons_append, List.nil_append, nI_1]
    by_cases hc1 : x ≤ y
    · rw [if_pos hc1] at he
      subst he
      simp only [hc1, if_true]
      by_cases hc : (msF (twoF σ 18 n) k).2 ≤ twoF σ 18 n k
      · simp only [hc, if_true, if_neg (Int32.not_lt.mpr hc)]
      · simp only [hc, if_false, if_pos (Int32.not_le.mp hc)]
    · rw [if_neg hc1] at he
      subst he
      simp only [hc1, if_false]
      by_cases hc : (msF (twoF σ 18 n) k).2 ≤ twoF σ 18 n k
      · simp only [hc, if_true, if_neg (Int32.not_lt.mpr hc)]
      · simp only [hc, if_false, if_pos (Int32.not_le.mp hc)]
theorem call_two (w : Int32) : Call 64 134 [.int w] := by
  intro σ μ h
  have hI := h
  obtain ⟨n, np, h1, -⟩ := h
  have hT := h1.okT
  have hM := h1.okM
  by_cases hw : rg w 0 1
  · have h0 : twoF σ 18 n 0 < 1000000000 := by
      have e := two_eq h1 (Nat.zero_le n) _ _ rfl rfl
      obtain ⟨a, -, a2, ea⟩ := h1.rgW (Nat.le_refl n)
      have hn7 := hT.2.1
      have ey : wlkF (μ.1 1) (μ.1 2) (glF (μ.1 3)) (fun i => odM μ n (0 + i)) (n - 0) = nI a := by
        simp only [Nat.zero_add, Nat.sub_zero]
        rw [← ea, h1.W (Nat.le_refl n)]
        rfl
      rw [ey, show wlkF (μ.1 1) (μ.1 2) (glF (μ.1 3)) (fun i => odM μ n (0 + i)) (0 - 0) = nI 0 from rfl, if_pos (nI_le (Nat.zero_le a) (by omega))] at e
      rw [← e]
      exact nI_lt (b := 1000000000) (by omega) (by decide)
    have hi : (0 : Int64) ≤ w.toInt64 ∧ w.toInt64 ≤ 1 := in_yes (a := 0) (b := 1) rfl rfl (by decide) hw
    obtain ⟨ν', k1, k2⟩ := Mtwo_loop (w := w) (a2 := .int (WM μ n n)) h1 h0 (n + 1) 0 (wnF μ n) .null .null .null (by omega) (fun _ _ => rfl)
    have hagν : AgM (wnF μ n) ν' := ⟨fun k hk => k1 k (by omega), fun j _ => by rw [k1 0 (by decide)]⟩
    refine ⟨if w = 0 then nI (bsF (twoF σ 18 n) n).1 else (bsF (twoF σ 18 n) n).2, layF σ 19 20 21 22 18 n, ν', hI.ag (layF_ag σ 18 n) ((wnF_ag μ n).tr hagν), fun d P => ?_, fun d P => ?_⟩
    · obtain ⟨v, -, hv, rfl⟩ := hw
      rw [in_X6_two]
      simp only [qX6_two_0, qX6_two_1, qX6_two_4, qX6_two_5, qX6_two_6, qX6_two_9, qX6_two_11, qX6_two_12, qX6_two_13, qX6_two_16, qX6_two_17, qX6_two_20, qX6_two_21, qX6_two_24, qX6_two_27, qX6_two_30, qX6_two_31, qX6_two_32, qX6_two_33, qX6_two_36, qX6_two_37, qX6_two_40, qX6_two_41, qX6_two_44, qX6_two_45, qX6_two_46, qX6_two_50, qX6_two_51, qX6_two_54, qX6_two_57, qX6_two_60, qX6_two_61, qX6_two_64, qX6_two_65, qX6_two_68, qX6_two_70, qX6_two_73, qX6_two_75, qX6_two_77, qX6_two_78, qX6_two_81, qX6_two_83, qX6_two_84, qX6_two_86, qX6_two_87, qX6_two_90, qX6_two_93, qX6_two_94, qX6_two_97, qX6_two_98, qX6_two_101, qX6_two_102, nI_neg (show v < 2 ^ 31 by omega), show nI v ≤ 1 from nI_le (b := 1) hv (by decide), if_true, if_false, s_lay_19 (S := 18) rfl hT (by decide), Option.toList, List.cons_append, List.nil_append]
      rw [show (0 : Int32) = nI 0 from rfl, s_longerOfTwo hT (Nat.zero_le n)]
      simp only [qX6_two_0, qX6_two_1, qX6_two_4, qX6_two_5, qX6_two_6, qX6_two_9, qX6_two_11, qX6_two_12, qX6_two_13, qX6_two_16, qX6_two_17, qX6_two_20, qX6_two_21, qX6_two_24, qX6_two_27, qX6_two_30, qX6_two_31, qX6_two_32, qX6_two_33, qX6_two_36, qX6_two_37, qX6_two_40, qX6_two_41, qX6_two_44, qX6_two_45, qX6_two_46, qX6_two_50, qX6_two_51, qX6_two_54, qX6_two_57, qX6_two_60, qX6_two_61, qX6_two_64, qX6_two_65, qX6_two_68, qX6_two_70, qX6_two_73, qX6_two_75, qX6_two_77, qX6_two_78, qX6_two_81, qX6_two_83, qX6_two_84, qX6_two_86, qX6_two_87, qX6_two_90, qX6_two_93, qX6_two_94, qX6_two_97, qX6_two_98, qX6_two_101, qX6_two_102, Option.toList, List.cons_append, List.nil_append]
      exact two_loop hT n 0 .null (by omega)
    · rw [in_X7_two]
      simp only [qX7_two_0, qX7_two_1, qX7_two_2, qX7_two_3, qX7_two_4, qX7_two_7, qX7_two_10, qX7_two_12, qX7_two_13, qX7_two_14, qX7_two_17, qX7_two_18, qX7_two_19, qX7_two_20, qX7_two_23, qX7_two_25, qX7_two_26, qX7_two_30, qX7_two_31, qX7_two_34, qX7_two_37, qX7_two_38, qX7_two_39, qX7_two_41, qX7_two_44, qX7_two_46, qX7_two_47, qX7_two_49, qX7_two_50, qX7_two_53, qX7_two_56, qX7_two_58, qX7_two_60, qX7_two_62, qX7_two_65, qX7_two_67, qX7_two_70, qX7_two_72, qX7_two_74, qX7_two_76, qX7_two_78, qX7_two_81, qX7_two_83, qX7_two_86, qX7_two_87, qX7_two_88, qX7_two_90, qX7_two_92, qX7_two_95, qX7_two_97, qX7_two_100, qX7_two_102, qX7_two_104, qX7_two_107, qX7_two_110, qX7_two_111, qX7_two_114, qX7_two_115, qX7_two_118, qX7_two_120, s_Min, hi, and_self, if_true, show ¬ (1 : Int32) = 0 by decide, if_false, s_MwalkNow hM, Option.toList, List.cons_append, List.nil_append]
      exact k2 _ P
  · refine ⟨-1000000002, σ, μ, hI, fun d P => ?_, fun d P => ?_⟩
    · rw [in_X6_two]
      rcases out_of (by decide) hw with hq | ⟨hq, hq2⟩
      · simp only [qX6_two_0, qX6_two_1, qX6_two_4, qX6_two_5, qX6_two_6, qX6_two_9, qX6_two_11, qX6_two_12, qX6_two_13, qX6_two_16, qX6_two_17, qX6_two_20, qX6_two_21, qX6_two_24, qX6_two_27, qX6_two_30, qX6_two_31, qX6_two_32, qX6_two_33, qX6_two_36, qX6_two_37, qX6_two_40, qX6_two_41, qX6_two_44, qX6_two_45, qX6_two_46, qX6_two_50, qX6_two_51, qX6_two_54, qX6_two_57, qX6_two_60, qX6_two_61, qX6_two_64, qX6_two_65, qX6_two_68, qX6_two_70, qX6_two_73, qX6_two_75, qX6_two_77, qX6_two_78, qX6_two_81, qX6_two_83, qX6_two_84, qX6_two_86, qX6_two_87, qX6_two_90, qX6_two_93, qX6_two_94, qX6_two_97, qX6_two_98, qX6_two_101, qX6_two_102, hq, if_true]
      · simp only [qX6_two_0, qX6_two_1, qX6_two_4, qX6_two_5, qX6_two_6, qX6_two_9, qX6_two_11, qX6_two_12, qX6_two_13, qX6_two_16, qX6_two_17, qX6_two_20, qX6_two_21, qX6_two_24, qX6_two_27, qX6_two_30, qX6_two_31, qX6_two_32, qX6_two_33, qX6_two_36, qX6_two_37, qX6_two_40, qX6_two_41, qX6_two_44, qX6_two_45, qX6_two_46, qX6_two_50, qX6_two_51, qX6_two_54, qX6_two_57, qX6_two_60, qX6_two_61, qX6_two_64, qX6_two_65, qX6_two_68, qX6_two_70, qX6_two_73, qX6_two_75, qX6_two_77, qX6_two_78, qX6_two_81, qX6_two_83, qX6_two_84, qX6_two_86, qX6_two_87, qX6_two_90, qX6_two_93, qX6_two_94, qX6_two_97, qX6_two_98, qX6_two_101, qX6_two_102, hq, show ¬ w ≤ 1 from hq2, if_false]
    · have hi : ¬ ((0 : Int64) ≤ w.toInt64 ∧ w.toInt64 ≤ 1) := in_no (a := 0) (b := 1) rfl rfl (by decide) (by decide) hw
      rw [in_X7_two]
      simp only [qX7_two_0, qX7_two_1, qX7_two_2, qX7_two_3, qX7_two_4, qX7_two_7, qX7_two_10, qX7_two_12, qX7_two_13, qX7_two_14, qX7_two_17, qX7_two_18, qX7_two_19, qX7_two_20, qX7_two_23, qX7_two_25, qX7_two_26, qX7_two_30, qX7_two_31, qX7_two_34, qX7_two_37, qX7_two_38, qX7_two_39, qX7_two_41, qX7_two_44, qX7_two_46, qX7_two_47, qX7_two_49, qX7_two_50, qX7_two_53, qX7_two_56, qX7_two_58, qX7_two_60, qX7_two_62, qX7_two_65, qX7_two_67, qX7_two_70, qX7_two_72, qX7_two_74, qX7_two_76, qX7_two_78, qX7_two_81, qX7_two_83, qX7_two_86, qX7_two_87, qX7_two_88, qX7_two_90, qX7_two_92, qX7_two_95, qX7_two_97, qX7_two_100, qX7_two_102, qX7_two_104, qX7_two_107, qX7_two_110, qX7_two_111, qX7_two_114, qX7_two_115, qX7_two_118, qX7_two_120, s_Min, hi, if_true, if_false, Option.toList, List.cons_append, List.nil_append]
