/-! THE CLASS grows orders letter by letter -/
def RC (n : Nat) (b : Bool) (s : Option (Nat × Nat × Nat)) (τ : mm_M) : Prop := τ.1 23 2 = bI b ∧ τ.1 23 3 = fI s ∧ ∀ w st c, s = some (w, st, c) → τ.1 23 4 = nI w ∧ τ.1 23 5 = nI st ∧ ∀ i, i < n → τ.1 25 i = nI (dgF n c i)
def FrS (σ τ : mm_M) : Prop := ∀ k, k ≠ 23 → k ≠ 24 → k ≠ 25 → τ.1 k = σ.1 k
theorem bI_ne {b : Bool} : (bI b = 0) ↔ b = false := by cases b <;> simp [bI]
section GROW
variable {σ μ : mm_M} {n np : Nat}
theorem better_run {τ : mm_M} {b : Bool} {w st bw bs : Nat} (hw : w < 2 ^ 31) (hs : st < 2 ^ 31) (hbw : bw < 2 ^ 31) (hbs : bs < 2 ^ 31) (h2 : τ.1 23 2 = bI b) (h4 : τ.1 23 4 = nI bw) (h5 : τ.1 23 5 = nI bs) (d : Nat) (P : mm_O) : mm_run shC (d + 1) 31 [.ref 23, .int (nI st), .int (nI w)] τ P = P (some (.int (bI (cpB b w st bw bs)))) τ := by
  rw [in_X3_isBetter]
  cases b with
  | true =>
    simp only [bI, if_true, show ¬ (1 : Int32) = 0 by decide, if_false, qX3_isBetter_0, qX3_isBetter_1, qX3_isBetter_4, qX3_isBetter_7, qX3_isBetter_8, qX3_isBetter_9, qX3_isBetter_12, qX3_isBetter_15, qX3_isBetter_16, qX3_isBetter_17, qX3_isBetter_20, qX3_isBetter_23, qX3_isBetter_24, qX3_isBetter_25, qX3_isBetter_28, qX3_isBetter_31, qX3_isBetter_32, qX3_isBetter_35, qX3_isBetter_36, qX3_isBetter_37, qX3_isBetter_38, qX3_isBetter_39, qX3_isBetter_42, qX3_isBetter_45, qX3_isBetter_46, qX3_isBetter_47, qX3_isBetter_50, qX3_isBetter_53, qX3_isBetter_54, qX3_isBetter_55, qX3_isBetter_58, qX3_isBetter_61, qX3_isBetter_62, qX3_isBetter_65, qX3_isBetter_66, h2, h4, h5]
    by_cases c1 : st < bs
    · have : cpB true w st bw bs = true := decide_eq_true (Or.inl c1)
      simp only [nI_lt c1 hbs, if_true, this, qX3_isBetter_0, qX3_isBetter_1, qX3_isBetter_4, qX3_isBetter_7, qX3_isBetter_8, qX3_isBetter_9, qX3_isBetter_12, qX3_isBetter_15, qX3_isBetter_16, qX3_isBetter_17, qX3_isBetter_20, qX3_isBetter_23, qX3_isBetter_24, qX3_isBetter_25, qX3_isBetter_28, qX3_isBetter_31, qX3_isBetter_32, qX3_isBetter_35, qX3_isBetter_36, qX3_isBetter_37, qX3_isBetter_38, qX3_isBetter_39, qX3_isBetter_42, qX3_isBetter_45, qX3_isBetter_46, qX3_isBetter_47, qX3_isBetter_50, qX3_isBetter_53, qX3_isBetter_54, qX3_isBetter_55, qX3_isBetter_58, qX3_isBetter_61, qX3_isBetter_62, qX3_isBetter_65, qX3_isBetter_66, or_true, true_and]
    · have c1' : ¬ nI st < nI bs := fun h => c1 ((nI_add_lt hs hbs).mp h)
      by_cases c2 : st = bs
      · by_cases c3 : w < bw
        · have : cpB true w st bw bs = true := decide_eq_true (Or.inr ⟨c2, c3⟩)
          have c3' : ¬ nI bw ≤ nI w := nI_ge c3 hbw
          simp only [c1', (nI_eq2 hs hbs).mpr c2, c3', if_true, if_false, this, qX3_isBetter_0, qX3_isBetter_1, qX3_isBetter_4, qX3_isBetter_7, qX3_isBetter_8, qX3_isBetter_9, qX3_isBetter_12, qX3_isBetter_15, qX3_isBetter_16, qX3_isBetter_17, qX3_isBetter_20, qX3_isBetter_23, qX3_isBetter_24, qX3_isBetter_25, qX3_isBetter_28, qX3_isBetter_31, qX3_isBetter_32, qX3_isBetter_35, qX3_isBetter_36, qX3_isBetter_37, qX3_isBetter_38, qX3_isBetter_39, qX3_isBetter_42, qX3_isBetter_45, qX3_isBetter_46, qX3_isBetter_47, qX3_isBetter_50, qX3_isBetter_53, qX3_isBetter_54, qX3_isBetter_55, qX3_isBetter_58, qX3_isBetter_61, qX3_isBetter_62, qX3_isBetter_65, qX3_isBetter_66, or_true, true_and]
          simp only [Int32.lt_irrefl, if_false, if_true, or_true, true_and]
        · have : cpB true w st bw bs = false := decide_eq_false (fun q => by omega)
          have c3' : nI bw ≤ nI w := nI_le (by omega) hw
          simp only [c1', (nI_eq2 hs hbs).mpr c2, c3', if_true, if_false, this, qX3_isBetter_0, qX3_isBetter_1, qX3_isBetter_4, qX3_isBetter_7, qX3_isBetter_8, qX3_isBetter_9, qX3_isBetter_12, qX3_isBetter_15, qX3_isBetter_16, qX3_isBetter_17, qX3_isBetter_20, qX3_isBetter_23, qX3_isBetter_24, qX3_isBetter_25, qX3_isBetter_28, qX3_isBetter_31, qX3_isBetter_32, qX3_isBetter_35, qX3_isBetter_36, qX3_isBetter_37, qX3_isBetter_38, qX3_isBetter_39, qX3_isBetter_42, qX3_isBetter_45, qX3_isBetter_46, qX3_isBetter_47, qX3_isBetter_50, qX3_isBetter_53, qX3_isBetter_54, qX3_isBetter_55, qX3_isBetter_58, qX3_isBetter_61, qX3_isBetter_62, qX3_isBetter_65, qX3_isBetter_66, true_or, true_and, Bool.false_eq_true]
          simp only [Int32.lt_irrefl, if_false, if_true, true_or, true_and]
      · have : cpB true w st bw bs = false := decide_eq_false (fun q => by omega)
        have c2' : ¬ nI st = nI bs := fun h => c2 ((nI_eq2 hs hbs).mp h)
        simp only [c1', c2', if_true, if_false, this, qX3_isBetter_0, qX3_isBetter_1, qX3_isBetter_4, qX3_isBetter_7, qX3_isBetter_8, qX3_isBetter_9, qX3_isBetter_12, qX3_isBetter_15, qX3_isBetter_16, qX3_isBetter_17, qX3_isBetter_20, qX3_isBetter_23, qX3_isBetter_24, qX3_isBetter_25, qX3_isBetter_28, qX3_isBetter_31, qX3_isBetter_32, qX3_isBetter_35, qX3_isBetter_36, qX3_isBetter_37, qX3_isBetter_38, qX3_isBetter_39, qX3_isBetter_42, qX3_isBetter_45, qX3_isBetter_46, qX3_isBetter_47, qX3_isBetter_50, qX3_isBetter_53, qX3_isBetter_54, qX3_isBetter_55, qX3_isBetter_58, qX3_isBetter_61, qX3_isBetter_62, qX3_isBetter_65, qX3_isBetter_66, true_or, true_and, Bool.false_eq_true]
  | false =>
    simp only [bI, if_true, Bool.false_eq_true, if_false, qX3_isBetter_0, qX3_isBetter_1, qX3_isBetter_4, qX3_isBetter_7, qX3_isBetter_8, qX3_isBetter_9, qX3_isBetter_12, qX3_isBetter_15, qX3_isBetter_16, qX3_isBetter_17, qX3_isBetter_20, qX3_isBetter_23, qX3_isBetter_24, qX3_isBetter_25, qX3_isBetter_28, qX3_isBetter_31, qX3_isBetter_32, qX3_isBetter_35, qX3_isBetter_36, qX3_isBetter_37, qX3_isBetter_38, qX3_isBetter_39, qX3_isBetter_42, qX3_isBetter_45, qX3_isBetter_46, qX3_isBetter_47, qX3_isBetter_50, qX3_isBetter_53, qX3_isBetter_54, qX3_isBetter_55, qX3_isBetter_58, qX3_isBetter_61, qX3_isBetter_62, qX3_isBetter_65, qX3_isBetter_66, h2, h4, h5]
    by_cases c1 : w < bw
    · have : cpB false w st bw bs = true := decide_eq_true (Or.inl c1)
      simp only [nI_lt c1 hbw, if_true, this, qX3_isBetter_0, qX3_isBetter_1, qX3_isBetter_4, qX3_isBetter_7, qX3_isBetter_8, qX3_isBetter_9, qX3_isBetter_12, qX3_isBetter_15, qX3_isBetter_16, qX3_isBetter_17, qX3_isBetter_20, qX3_isBetter_23, qX3_isBetter_24, qX3_isBetter_25, qX3_isBetter_28, qX3_isBetter_31, qX3_isBetter_32, qX3_isBetter_35, qX3_isBetter_36, qX3_isBetter_37, qX3_isBetter_38, qX3_isBetter_39, qX3_isBetter_42, qX3_isBetter_45, qX3_isBetter_46, qX3_isBetter_47, qX3_isBetter_50, qX3_isBetter_53, qX3_isBetter_54, qX3_isBetter_55, qX3_isBetter_58, qX3_isBetter_61, qX3_isBetter_62, qX3_isBetter_65, qX3_isBetter_66, or_true, true_and]
    · have c1' : ¬ nI w < nI bw := fun h => c1 ((nI_add_lt hw hbw).mp h)
      by_cases c2 : w = bw
      · by_cases c3 : st < bs
        · have : cpB false w st bw bs = true := decide_eq_true (Or.inr ⟨c2, c3⟩)
          have c3' : ¬ nI bs ≤ nI st := nI_ge c3 hbs
          simp only [c1', (nI_eq2 hw hbw).mpr c2, c3', if_true, if_false, this, qX3_isBetter_0, qX3_isBetter_1, qX3_isBetter_4, qX3_isBetter_7, qX3_isBetter_8, qX3_isBetter_9, qX3_isBetter_12, qX3_isBetter_15, qX3_isBetter_16, qX3_isBetter_17, qX3_isBetter_20, qX3_isBetter_23, qX3_isBetter_24, qX3_isBetter_25, qX3_isBetter_28, qX3_isBetter_31, qX3_isBetter_32, qX3_isBetter_35, qX3_isBetter_36, qX3_isBetter_37, qX3_isBetter_38, qX3_isBetter_39, qX3_isBetter_42, qX3_isBetter_45, qX3_isBetter_46, qX3_isBetter_47, qX3_isBetter_50, qX3_isBetter_53, qX3_isBetter_54, qX3_isBetter_55, qX3_isBetter_58, qX3_isBetter_61, qX3_isBetter_62, qX3_isBetter_65, qX3_isBetter_66, or_true, true_and]
          simp only [Int32.lt_irrefl, if_false, if_true, or_true, true_and]
        · have : cpB false w st bw bs = false := decide_eq_false (fun q => by omega)
          have c3' : nI bs ≤ nI st := nI_le (by omega) hs
          simp only [c1', (nI_eq2 hw hbw).mpr c2, c3', if_true, if_false, this, qX3_isBetter_0, qX3_isBetter_1, qX3_isBetter_4, qX3_isBetter_7, qX3_isBetter_8, qX3_isBetter_9, qX3_isBetter_12, qX3_isBetter_15, qX3_isBetter_16, qX3_isBetter_17, qX3_isBetter_20, qX3_isBetter_23, qX3_isBetter_24, qX3_isBetter_25, qX3_isBetter_28, qX3_isBetter_31, qX3_isBetter_32, qX3_isBetter_35, qX3_isBetter_36, qX3_isBetter_37, qX3_isBetter_38, qX3_isBetter_39, qX3_isBetter_42, qX3_isBetter_45, qX3_isBetter_46, qX3_isBetter_47, qX3_isBetter_50, qX3_isBetter_53, qX3_isBetter_54, qX3_isBetter_55, qX3_isBetter_58, qX3_isBetter_61, qX3_isBetter_62, qX3_isBetter_65, qX3_isBetter_66, true_or, true_and, Bool.false_eq_true]
          simp only [Int32.lt_irrefl, if_false, if_true, true_or, true_and]
      · have : cpB false w st bw bs = false := decide_eq_false (fun q => by omega)
        have c2' : ¬ nI w = nI bw := fun h => c2 ((nI_eq2 hw hbw).mp h)
        simp only [c1', c2', if_true, if_false, this, qX3_isBetter_0, qX3_isBetter_1, qX3_isBetter_4, qX3_isBetter_7, qX3_isBetter_8, qX3_isBetter_9, qX3_isBetter_12, qX3_isBetter_15, qX3_isBetter_16, qX3_isBetter_17, qX3_isBetter_20, qX3_isBetter_23, qX3_isBetter_24, qX3_isBetter_25, qX3_isBetter_28, qX3_isBetter_31, qX3_isBetter_32, qX3_isBetter_35, qX3_isBetter_36, qX3_isBetter_37, qX3_isBetter_38, qX3_isBetter_39, qX3_isBetter_42, qX3_isBetter_45, qX3_isBetter_46, qX3_isBetter_47, qX3_isBetter_50, qX3_isBetter_53, qX3_isBetter_54, qX3_isBetter_55, qX3_isBetter_58, qX3_isBetter_61, qX3_isBetter_62, qX3_isBetter_65, qX3_isBetter_66, true_or, true_and, Bool.false_eq_true]
theorem consider_run (h1 : TwR σ μ n np) (b : Bool) {f : Nat → Nat} {s : Option (Nat × Nat × Nat)} {τ : mm_M} (hf : ∀ i, i < n → f i < n) (hrow : ∀ i, i < n → τ.1 24 i = nI (f i)) (hfr : FrS σ τ) (hr : RC n b s τ) (hok : okS s) : ∃ τ' : mm_M, FrS σ τ' ∧ RC n b (sch_C n (WK σ) (FS σ n) b s f) τ' ∧ okS (sch_C n (WK σ) (FS σ n) b s f) ∧ τ'.1 24 = τ.1 24 ∧ ∀ (d : Nat) (P : mm_O), mm_run shC (d + 3) 30 [.ref 23, .ref 11, .int (nI (WK σ f n))] τ P = P none τ' := by
  have hn := h1.2.1.2.2
  have k11 := hfr 11 (by decide) (by decide) (by decide)
  have k15 := hfr 15 (by decide) (by decide) (by decide)
  have s1 := fun (d : Nat) (P : mm_O) => s_fewestStones (σ := τ) (n := n) (f := f) (wt := wtN (σ.1 15)) hn (by rw [k11]; exact h1.2.1.1) (fun i hi => ⟨hf i hi, hrow i hi⟩) (fun l hl => ⟨(h1.wt hl).1, by rw [k15]; exact (h1.wt hl).2.1⟩) d P
  rw [k11] at s1
  have hwb := (h1.wl n hf).2
  generalize hF : fsN (decide (σ.1 11 10 = 0)) n (wtN (σ.1 15)) f = opt at s1
  have hsc : sch_C n (WK σ) (FS σ n) b s f = match opt with
    | none => s
    | some st => if sch_btr b (WK σ f n) st s = true then some (WK σ f n, st, cdF n f n) else s := by
    unfold sch_C
    rw [show FS σ n f = opt from hF]
    cases opt <;> rfl
  rw [hsc]
  cases opt with
  | none =>
    refine ⟨τ, hfr, hr, hok, rfl, fun d P => ?_⟩
    rw [in_X3_consider]
    simp only [qX3_consider_0, qX3_consider_1, qX3_consider_2, qX3_consider_5, qX3_consider_6, qX3_consider_7, qX3_consider_8, qX3_consider_11, qX3_consider_12, qX3_consider_15, qX3_consider_18, qX3_consider_19, qX3_consider_20, qX3_consider_21, qX3_consider_24, qX3_consider_27, qX3_consider_28, qX3_consider_29, qX3_consider_32, qX3_consider_33, qX3_consider_34, qX3_consider_37, qX3_consider_38, qX3_consider_39, qX3_consider_42, qX3_consider_43, qX3_consider_46, qX3_consider_47, qX3_consider_50, qX3_consider_53, s1, fsI, if_true, Option.toList, List.cons_append, List.nil_append]
  | some st =>
    have hst := FS_b h1 hf hF
    have hw1 : WK σ f n ≤ 1386 := by omega
    have hne : ¬ nI st = -1 := nI_m1 (by omega)
    have f2 := fun (τ : mm_M) (d : Nat) (P : mm_O) => s_copyRow (d := d) (P := P) (σ := τ) (a := 24) (b := 25) (n := 7) rfl rfl (by decide) (by decide)
    -- the new best
    generalize hν : mm_set τ 23 (upd (upd (upd (τ.1 23) 3 1) 4 (nI (WK σ f n))) 5 (nI st)) = ν
    have e0 : ∀ k, k ≠ 23 → ν.1 k = τ.1 k := fun k hk => by rw [← hν, mm_set_ne _ _ hk]
    have e23 : ν.1 23 2 = bI b ∧ ν.1 23 3 = 1 ∧ ν.1 23 4 = nI (WK σ f n) ∧ ν.1 23 5 = nI st := by
      rw [← hν, mm_set_same]
      exact ⟨hr.1, rfl, rfl, rfl⟩
    generalize hτ' : mm_set ν 25 (fun i => if i < 7 then ν.1 24 i else ν.1 25 i) = τ'
    have up : FrS σ τ' ∧ RC n b (some (WK σ f n, st, cdF n f n)) τ' ∧ okS (some (WK σ f n, st, cdF n f n)) ∧ τ'.1 24 = τ.1 24 := by
      refine ⟨fun k a b c => ?_, ⟨?_, ?_, fun w2 st2 c2 e => ?_⟩, ⟨hw1, hst⟩, ?_⟩
      · rw [← hτ', mm_set_ne _ _ c, e0 k a]; exact hfr k a b c
      · rw [← hτ', mm_set_ne _ _ (by decide)]; exact e23.1
      · rw [← hτ', mm_set_ne _ _ (by decide)]; exact e23.2.1
      · cases e
        rw [← hτ', mm_set_ne _ _ (show 23 ≠ 25 by decide)]
        refine ⟨e23.2.2.1, e23.2.2.2, fun i hi => ?_⟩
        have := dg_cd (n := n) (k := n) (h := 0) (r := 0) (f := f) (by omega) hf (by simp) hi
        rw [Nat.pow_zero, Nat.mul_one, Nat.add_zero] at this
        rw [mm_set_same, this, if_pos (by omega), e0 24 (by decide)]
        exact hrow i hi
      · rw [← hτ', mm_set_ne _ _ (by decide), e0 24 (by decide)]
    have run : ∀ (d : Nat) (P : mm_O), mm_at shC (d + 2) 30 [] P 27 [.ref 23, .ref 11, .int (nI (WK σ f n)), .int (nI st)] [] τ = P none τ' := fun d P => by
      simp only [qX3_consider_0, qX3_consider_1, qX3_consider_2, qX3_consider_5, qX3_consider_6, qX3_consider_7, qX3_consider_8, qX3_consider_11, qX3_consider_12, qX3_consider_15, qX3_consider_18, qX3_consider_19, qX3_consider_20, qX3_consider_21, qX3_consider_24, qX3_consider_27, qX3_consider_28, qX3_consider_29, qX3_consider_32, qX3_consider_33, qX3_consider_34, qX3_consider_37, qX3_consider_38, qX3_consider_39, qX3_consider_42, qX3_consider_43, qX3_consider_46, qX3_consider_47, qX3_consider_50, qX3_consider_53, or_true, true_and, mm_sti_set, mm_set_1, mm_set_set, if_true, hν, f2, hτ', Option.toList, List.nil_append]
    cases hs : s with
    | none =>
      rw [hs] at hr
      have hfd : τ.1 23 3 = 0 := hr.2.1
      refine ⟨τ', up.1, up.2.1, up.2.2.1, up.2.2.2, fun d P => ?_⟩
      rw [in_X3_consider]
      simp only [qX3_consider_0, qX3_consider_1, qX3_consider_2, qX3_consider_5, qX3_consider_6, qX3_consider_7, qX3_consider_8, qX3_consider_11, qX3_consider_12, qX3_consider_15, qX3_consider_18, qX3_consider_19, qX3_consider_20, qX3_consider_21, qX3_consider_24, qX3_consider_28, qX3_consider_29, qX3_consider_32, qX3_consider_33, qX3_consider_34, qX3_consider_37, qX3_consider_38, qX3_consider_39, qX3_consider_42, qX3_consider_43, qX3_consider_46, qX3_consider_47, qX3_consider_50, qX3_consider_53, s1, fsI, hne, if_false, hfd, if_true, Option.toList, List.cons_append, List.nil_append]
      exact run d P
    | some x =>
      obtain ⟨bw, bs, bc⟩ := x
      rw [hs] at hr hok
      have hfd : τ.1 23 3 = 1 := hr.2.1
      obtain ⟨r4, r5, r6⟩ := hr.2.2 bw bs bc rfl
      have hok' : bw ≤ 1386 ∧ bs ≤ 63 := hok
      have bt := fun (d : Nat) (P : mm_O) => better_run (τ := τ) (b := b) (w := WK σ f n) (st := st) (bw := bw) (bs := bs) (by omega) (by omega) (by omega) (by omega) hr.1 r4 r5 d P
      by_cases hq : sch_btr b (WK σ f n) st (some (bw, bs, bc)) = true
      · have hc : cpB b (WK σ f n) st bw bs = true := hq
        refine ⟨τ', up.1, ?_, ?_, up.2.2.2, fun d P => ?_⟩
        · show RC n b (if _ then _ else _) τ'
          rw [if_pos hq]; exact up.2.1
        · show okS (if _ then _ else _)
          rw [if_pos hq]; exact up.2.2.1
        · rw [in_X3_consider]
          simp only [qX3_consider_0, qX3_consider_1, qX3_consider_2, qX3_consider_5, qX3_consider_6, qX3_consider_7, qX3_consider_8, qX3_consider_11, qX3_consider_12, qX3_consider_15, qX3_consider_18, qX3_consider_19, qX3_consider_20, qX3_consider_21, qX3_consider_24, qX3_consider_28, qX3_consider_29, qX3_consider_32, qX3_consider_33, qX3_consider_34, qX3_consider_37, qX3_consider_38, qX3_consider_39, qX3_consider_42, qX3_consider_43, qX3_consider_46, qX3_consider_47, qX3_consider_50, qX3_consider_53, s1, fsI, hne, if_false, hfd, show ¬ (1 : Int32) = 0 by decide, bt, hc, bI, if_true, Option.toList, List.cons_append, List.nil_append]
          exact run d P
      · have hc : cpB b (WK σ f n) st bw bs = false := by
          have : ¬ cpB b (WK σ f n) st bw bs = true := hq
          simpa using this
        refine ⟨τ, hfr, ?_, ?_, rfl, fun d P => ?_⟩
        · show RC n b (if _ then _ else _) τ
          rw [if_neg hq]; exact hr
        · show okS (if _ then _ else _)
          rw [if_neg hq]; exact hok
        · rw [in_X3_consider]
          simp only [qX3_consider_0, qX3_consider_1, qX3_consider_2, qX3_consider_5, qX3_consider_6, qX3_consider_7, qX3_consider_8, qX3_consider_11, qX3_consider_12, qX3_consider_15, qX3_consider_18, qX3_consider_19, qX3_consider_20, qX3_consider_21, qX3_consider_24, qX3_consider_28, qX3_consider_29, qX3_consider_32, qX3_consider_33, qX3_consider_34, qX3_consider_37, qX3_consider_38, qX3_consider_39, qX3_consider_42, qX3_consider_43, qX3_consider_46, qX3_consider_47, qX3_consider_50, qX3_consider_53, s1, fsI, hne, if_false, hfd, show ¬ (1 : Int32) = 0 by decide, bt, hc, bI, Bool.false_eq_true, if_true, Option.toList, List.cons_append, List.nil_append]
theorem mayLead_run (h1 : TwR σ μ n np) (b : Bool) {s : Option (Nat × Nat × Nat)} {τ : mm_M} {l c : Nat} (hl : l < n) (hc : c < 2 ^ 31) (hfr : FrS σ τ) (hr : RC n b s τ) (hok : okS s) : ∃ x : Int32, ((x = 1 ∧ sch_may (DU σ) b s l c) ∨ (x = 0 ∧ ¬ sch_may (DU σ) b s l c)) ∧ ∀ (d : Nat) (P : mm_O), mm_run shC (d + 2) 29 [.ref 23, .ref 11, .int (nI l), .int (nI c)] τ P = P (some (.int x)) τ := by
  have hn := h1.2.1.2.2
  have k16 := hfr 16 (by decide) (by decide) (by decide)
  obtain ⟨du1, du2, -⟩ := h1.du hl
  cases b with
  | true =>
    have hb : τ.1 23 2 = 1 := hr.1
    by_cases hq : c ≤ DU σ l
    · refine ⟨1, Or.inl ⟨rfl, hq⟩, fun d P => ?_⟩
      rw [in_X3_mayLead]
      have : ¬ nI (DU σ l) < nI c := nI_nlt hq (by omega)
      simp only [qX3_mayLead_0, qX3_mayLead_1, qX3_mayLead_4, qX3_mayLead_7, qX3_mayLead_8, qX3_mayLead_9a, qX3_mayLead_9b, qX3_mayLead_12, qX3_mayLead_13, qX3_mayLead_16, qX3_mayLead_19, qX3_mayLead_20, qX3_mayLead_23, qX3_mayLead_24, qX3_mayLead_25, qX3_mayLead_26, qX3_mayLead_29, qX3_mayLead_32, qX3_mayLead_33, qX3_mayLead_34, qX3_mayLead_37, qX3_mayLead_40, qX3_mayLead_41, qX3_mayLead_44, qX3_mayLead_45, hb, show ¬ (1 : Int32) = 0 by decide, if_false, s_at_16, k16, atF_in _ (show l < 7 by omega) (show 7 < 2 ^ 31 by decide), du2, this, or_true, true_and, Option.toList, List.cons_append, List.nil_append]
    · refine ⟨0, Or.inr ⟨rfl, hq⟩, fun d P => ?_⟩
      rw [in_X3_mayLead]
      have : nI (DU σ l) < nI c := nI_lt (by omega) hc
      simp only [qX3_mayLead_0, qX3_mayLead_1, qX3_mayLead_4, qX3_mayLead_7, qX3_mayLead_8, qX3_mayLead_9a, qX3_mayLead_9b, qX3_mayLead_12, qX3_mayLead_13, qX3_mayLead_16, qX3_mayLead_19, qX3_mayLead_20, qX3_mayLead_23, qX3_mayLead_24, qX3_mayLead_25, qX3_mayLead_26, qX3_mayLead_29, qX3_mayLead_32, qX3_mayLead_33, qX3_mayLead_34, qX3_mayLead_37, qX3_mayLead_40, qX3_mayLead_41, qX3_mayLead_44, qX3_mayLead_45, hb, show ¬ (1 : Int32) = 0 by decide, if_false, if_true, s_at_16, k16, atF_in _ (show l < 7 by omega) (show 7 < 2 ^ 31 by decide), du2, this, true_or, true_and, Option.toList, List.cons_append, List.nil_append]
  | false =>
    have hb : τ.1 23 2 = 0 := hr.1
    cases s with
    | none =>
      have hfd : τ.1 23 3 = 0 := hr.2.1
      refine ⟨1, Or.inl ⟨rfl, trivial⟩, fun d P => ?_⟩
      rw [in_X3_mayLead]
      simp only [qX3_mayLead_0, qX3_mayLead_1, qX3_mayLead_4, qX3_mayLead_7, qX3_mayLead_8, qX3_mayLead_9a, qX3_mayLead_9b, qX3_mayLead_12, qX3_mayLead_13, qX3_mayLead_16, qX3_mayLead_19, qX3_mayLead_20, qX3_mayLead_23, qX3_mayLead_24, qX3_mayLead_25, qX3_mayLead_26, qX3_mayLead_29, qX3_mayLead_32, qX3_mayLead_33, qX3_mayLead_34, qX3_mayLead_37, qX3_mayLead_40, qX3_mayLead_41, qX3_mayLead_44, qX3_mayLead_45, hb, if_true, hfd, or_true, true_and]
    | some x =>
      obtain ⟨bw, bs, bc⟩ := x
      have hfd : τ.1 23 3 = 1 := hr.2.1
      obtain ⟨r4, -, -⟩ := hr.2.2 bw bs bc rfl
      have hok' : bw ≤ 1386 ∧ bs ≤ 63 := hok
      by_cases hq : c ≤ bw
      · refine ⟨1, Or.inl ⟨rfl, hq⟩, fun d P => ?_⟩
        rw [in_X3_mayLead]
        have : ¬ nI bw < nI c := nI_nlt hq (by omega)
        simp only [qX3_mayLead_0, qX3_mayLead_1, qX3_mayLead_4, qX3_mayLead_7, qX3_mayLead_8, qX3_mayLead_9a, qX3_mayLead_9b, qX3_mayLead_12, qX3_mayLead_13, qX3_mayLead_16, qX3_mayLead_19, qX3_mayLead_20, qX3_mayLead_23, qX3_mayLead_24, qX3_mayLead_25, qX3_mayLead_26, qX3_mayLead_29, qX3_mayLead_32, qX3_mayLead_33, qX3_mayLead_34, qX3_mayLead_37, qX3_mayLead_40, qX3_mayLead_41, qX3_mayLead_44, qX3_mayLead_45, hb, if_true, hfd, show ¬ (1 : Int32) = 0 by decide, if_false, r4, this, or_true, true_and]
      · refine ⟨0, Or.inr ⟨rfl, hq⟩, fun d P => ?_⟩
        rw [in_X3_mayLead]
        have : nI bw < nI c := nI_lt (by omega) hc
        simp only [qX3_mayLead_0, qX3_mayLead_1, qX3_mayLead_4, qX3_mayLead_7, qX3_mayLead_8, qX3_mayLead_9a, qX3_mayLead_9b, qX3_mayLead_12, qX3_mayLead_13, qX3_mayLead_16, qX3_mayLead_19, qX3_mayLead_20, qX3_mayLead_23, qX3_mayLead_24, qX3_mayLead_25, qX3_mayLead_26, qX3_mayLead_29, qX3_mayLead_32, qX3_mayLead_33, qX3_mayLead_34, qX3_mayLead_37, qX3_mayLead_40, qX3_mayLead_41, qX3_mayLead_44, qX3_mayLead_45, hb, if_true, hfd, show ¬ (1 : Int32) = 0 by decide, if_false, r4, this, true_or, true_and]
end GROW
