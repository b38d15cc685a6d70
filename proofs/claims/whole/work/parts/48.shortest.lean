/-! CALLS: shortest, inTime -/
theorem pick_best {hv : Nat → Int32} {tk : Nat → Bool} {b : Bool} : ∀ {n q : Nat}, pick hv tk b n = some q → ∀ l, l < n → tk l = false → betF hv b q l = false ∧ (l < q → betF hv b l q = true)
  | 0, _, h => by intro l hl; omega
  | n + 1, q, h => by
    have irr : ∀ q, betF hv b q q = false := fun q => by unfold betF; split <;> exact decide_eq_false (Int32.lt_irrefl)
    have tr : ∀ a c e, betF hv b a c = true → betF hv b c e = true → betF hv b a e = true := fun a c e h1 h2 => by
      unfold betF at h1 h2 ⊢
      cases b with
      | true => exact decide_eq_true (Int32.lt_trans (of_decide_eq_true h1) (of_decide_eq_true h2))
      | false => exact decide_eq_true (Int32.lt_trans (of_decide_eq_true h2) (of_decide_eq_true h1))
    have tl : ∀ a c e, betF hv b a c = false → betF hv b a e = true → betF hv b c e = true := fun a c e h1 h2 => by
      unfold betF at h1 h2 ⊢
      cases b with
      | true => exact decide_eq_true (Int32.lt_of_le_of_lt (Int32.not_lt.mp (of_decide_eq_false h1)) (of_decide_eq_true h2))
      | false => exact decide_eq_true (Int32.lt_of_lt_of_le (of_decide_eq_true h2) (Int32.not_lt.mp (of_decide_eq_false h1)))
    intro l hl hf
    cases htk : tk n with
    | true =>
      rw [pick_tk htk] at h
      have hln : l ≠ n := fun e => by rw [e, htk] at hf; cases hf
      exact pick_best h l (by omega) hf
    | false =>
      cases hp : pick hv tk b n with
      | none =>
        rw [pick_n htk hp] at h
        cases h
        have hln : l = n := by
          rcases Nat.lt_or_ge l n with q | q
          · have := pick_none hp l q
            rw [hf] at this
            cases this
          · omega
        rw [hln]
        exact ⟨irr n, fun h => by omega⟩
      | some p =>
        rw [pick_s htk hp] at h
        have ih := fun l hl hf => pick_best hp l hl hf
        have hpn := (pick_some hp).1
        have hpf := (pick_some hp).2
        by_cases hb : betF hv b p n = true
        · rw [if_pos hb] at h
          cases h
          by_cases hln : l = n
          · rw [hln]; exact ⟨irr n, fun h => by omega⟩
          · have i := ih l (by omega) hf
            have hlq : betF hv b l n = true := tl p l n i.1 hb
            refine ⟨?_, fun _ => hlq⟩
            cases e : betF hv b n l with
            | false => rfl
            | true => exact absurd (tr n l n e hlq) (by rw [irr n]; decide)
        · rw [if_neg hb] at h
          cases h
          by_cases hln : l = n
          · rw [hln]
            exact ⟨by simpa using hb, fun h => by omega⟩
          · exact ih l (by omega) hf
theorem ord_best {hv : Nat → Int32} {n : Nat} {law : Int32} {i j : Nat} (hij : i < j) (hj : j < n) : betF hv (bigF law i) (ordF hv n law i) (ordF hv n law j) = false ∧ (ordF hv n law j < ordF hv n law i → betF hv (bigF law i) (ordF hv n law j) (ordF hv n law i) = true) := by
  have h := pick_best (ord_some (hv := hv) (law := law) (show i < n by omega)) (ordF hv n law j) (ord_lt hj)
  refine h ?_
  cases e : tkF hv n law i (ordF hv n law j) with
  | false => rfl
  | true =>
    obtain ⟨a, ha, ea⟩ := tkF_mem e
    rw [ord_some (show a < n by omega)] at ea
    have := ord_inj (show a < n by omega) hj (Option.some.inj ea)
    omega
theorem fs_zero {hv : Nat → Int32} {n : Nat} {law : Int32} {wt : Nat → Nat} (hlaw : law = 0 ∨ law = 1) (hw : ∀ l, l < n → wt l < 2 ^ 31 ∧ hv l = nI (wt l)) : ∀ k, k ≤ n → ∃ lh, fsR (decide (law = 0)) n wt (ordF hv n law) k = some (0, lh) ∧ (0 < k → lh = wt (sqF (decide (law = 0)) n (ordF hv n law) (k - 1)))
  | 0, _ => ⟨0, rfl, fun h => by omega⟩
  | k + 1, hk => by
    obtain ⟨lh, e, el⟩ := fs_zero hlaw hw k (by omega)
    have hz : ndF (decide (law = 0)) n (ordF hv n law) k lh - wt (sqF (decide (law = 0)) n (ordF hv n law) k) = 0 := by
      unfold ndF
      by_cases h0 : k = 0
      · rw [if_pos h0]; omega
      · rw [if_neg h0, el (by omega)]
        rcases hlaw with hl | hl
        · have hbk : decide (law = 0) = true := decide_eq_true hl
          have hb : bigF law (n - 1 - k) = true := by unfold bigF; rw [hbk]; rfl
          rw [hbk]
          have sk : sqF true n (ordF hv n law) k = ordF hv n law (n - 1 - k) := rfl
          have sp : sqF true n (ordF hv n law) (k - 1) = ordF hv n law (n - 1 - k + 1) := by
            show ordF hv n law (n - 1 - (k - 1)) = _
            rw [show n - 1 - (k - 1) = n - 1 - k + 1 by omega]
          rw [sk, sp]
          obtain ⟨q1, q2⟩ := ord_best (hv := hv) (n := n) (law := law) (i := n - 1 - k) (j := n - 1 - k + 1) (by omega) (by omega)
          have l1 := ord_lt (hv := hv) (law := law) (show n - 1 - k < n by omega)
          have l2 := ord_lt (hv := hv) (law := law) (show n - 1 - k + 1 < n by omega)
          have ne : ordF hv n law (n - 1 - k) ≠ ordF hv n law (n - 1 - k + 1) := fun e => by have := ord_inj (show n - 1 - k < n by omega) (show n - 1 - k + 1 < n by omega) e; omega
          rw [hb] at q1 q2
          unfold betF at q1 q2
          simp only [if_true, (hw _ l1).2, (hw _ l2).2, decide_eq_true_eq, decide_eq_false_iff_not] at q1 q2
          have w1 := (hw _ l1).1
          have w2 := (hw _ l2).1
          rw [nI_add_lt w1 w2] at q1
          rw [nI_add_lt w2 w1] at q2
          unfold mbF
          simp only [if_true, decide_eq_true_eq]
          split <;> omega
        · have hne : ¬ law = 0 := by rw [hl]; decide
          have hbk : decide (law = 0) = false := decide_eq_false hne
          have hb : bigF law (k - 1) = false := by unfold bigF; rw [hbk, hl]; rfl
          rw [hbk]
          have sk : sqF false n (ordF hv n law) k = ordF hv n law (k - 1 + 1) := by
            show ordF hv n law k = _
            rw [show k - 1 + 1 = k by omega]
          have sp : sqF false n (ordF hv n law) (k - 1) = ordF hv n law (k - 1) := rfl
          rw [sk, sp]
          obtain ⟨q1, q2⟩ := ord_best (hv := hv) (n := n) (law := law) (i := k - 1) (j := k - 1 + 1) (by omega) (by omega)
          have l1 := ord_lt (hv := hv) (law := law) (show k - 1 < n by omega)
          have l2 := ord_lt (hv := hv) (law := law) (show k - 1 + 1 < n by omega)
          have ne : ordF hv n law (k - 1) ≠ ordF hv n law (k - 1 + 1) := fun e => by have := ord_inj (show k - 1 < n by omega) (show k - 1 + 1 < n by omega) e; omega
          rw [hb] at q1 q2
          unfold betF at q1 q2
          simp only [Bool.false_eq_true, if_false, (hw _ l1).2, (hw _ l2).2, decide_eq_true_eq, decide_eq_false_iff_not] at q1 q2
          have w1 := (hw _ l1).1
          have w2 := (hw _ l2).1
          rw [nI_add_lt w2 w1] at q1
          rw [nI_add_lt w1 w2] at q2
          unfold mbF
          simp only [Bool.false_eq_true, if_false, decide_eq_true_eq]
          split <;> omega
    refine ⟨wt (sqF (decide (law = 0)) n (ordF hv n law) k), ?_, fun _ => rfl⟩
    rw [fsR, e]
    simp only [hz]
    rfl
section SOME
variable {n : Nat} {wk : (Nat → Nat) → Nat → Nat} {fs : (Nat → Nat) → Option Nat} {due : Nat → Nat} {b : Bool}
theorem sch_M_some {s : Option (Nat × Nat × Nat)} {c : Nat} (h : s ≠ none) : sch_M n wk fs due b s c ≠ none := by
  unfold sch_M
  by_cases h1 : ∀ l, l < n → ∃ i, i < n ∧ dgF n c i = l
  · rw [cite_pos h1]
    cases fs (dgF n c) with
    | none => exact h
    | some st =>
      show cite _ _ _ ≠ none
      by_cases h2 : (b = true → ∀ k, k < n → wk (dgF n c) (k + 1) ≤ due (dgF n c k)) ∧ sch_btr b (wk (dgF n c) n) st s = true
      · rw [cite_pos h2]; exact fun e => by cases e
      · rw [cite_neg h2]; exact h
  · rw [cite_neg h1]; exact h
theorem sch_F_some {s : Option (Nat × Nat × Nat)} {a : Nat} : ∀ {len r : Nat}, r < len → (∀ s, sch_M n wk fs due b s (a + r) ≠ none) → sch_F n wk fs due b s a len ≠ none
  | 0, r, h, _ => by omega
  | len + 1, r, h, hr => by
    show sch_M n wk fs due b (sch_F n wk fs due b s a len) (a + len) ≠ none
    by_cases e : r = len
    · rw [← e]; exact hr _
    · exact sch_M_some (sch_F_some (show r < len by omega) hr)
end SOME
theorem fsR_congr2 {bk : Bool} {n : Nat} {wt f f' : Nat → Nat} (hf : ∀ i, i < n → f i = f' i) : ∀ {k : Nat}, k ≤ n → fsR bk n wt f k = fsR bk n wt f' k
  | 0, _ => rfl
  | k + 1, hk => by
    have hi : ∀ j, j < n → sqF bk n f j = sqF bk n f' j := fun j hj => by unfold sqF; split <;> exact hf _ (by omega)
    have e : ∀ lh, ndF bk n f k lh = ndF bk n f' k lh := fun lh => by
      unfold ndF
      by_cases h0 : k = 0
      · rw [if_pos h0, if_pos h0]
      · rw [if_neg h0, if_neg h0, hi k (by omega), hi (k - 1) (by omega)]
    unfold fsR
    rw [fsR_congr2 hf (by omega)]
    simp only [e, ← hi k (by omega)]
section SH
variable {σ μ : mm_M} {n np : Nat}
theorem sch_eq (b : Bool) : sch_E n (WK σ) (FS σ n) (DU σ) b n 0 (fun _ => 0) none = sch_F n (WK σ) (FS σ n) (DU σ) b none 0 (n ^ n) := by
  have e := sch_sub (n := n) (wk := WK σ) (fs := FS σ n) (due := DU σ) (b := b) (fun f f' k _ h => wkN_congr k h) (fun f k => Nat.le_add_right _ _) (fun f f' h => by
    show (fsR _ n _ f n).map _ = (fsR _ n _ f' n).map _
    rw [fsR_congr2 h (Nat.le_refl _)]) n 0 (fun _ => 0) none (by omega) (fun i hi => by omega) (fun i j hi => by omega) (fun _ i hi => by omega)
  rw [show cdF n (fun _ => 0) 0 * n ^ n = 0 from Nat.zero_mul _] at e
  exact e
theorem sch_found (h1 : TwR σ μ n np) (hn0 : 0 < n) (hl2 : ¬ σ.1 11 10 = 2) : sch_F n (WK σ) (FS σ n) (DU σ) false none 0 (n ^ n) ≠ none := by
  have hlaw : σ.1 11 10 = 0 ∨ σ.1 11 10 = 1 := by
    obtain ⟨k, -, hk, e⟩ := h1.2.2.2.2.2.1.2
    have : k = 0 ∨ k = 1 ∨ k = 2 := by omega
    rcases this with q | q | q
    · left; rw [e, q]; rfl
    · right; rw [e, q]; rfl
    · exact absurd (by rw [e, q]; rfl) hl2
  generalize hf : ordF (σ.1 15) n (σ.1 11 10) = f
  have hflt : ∀ i, i < n → f i < n := fun i hi => by rw [← hf]; exact ord_lt hi
  have hfin : ∀ i j, i < n → j < n → f i = f j → i = j := fun i j hi hj e => by rw [← hf] at e; exact ord_inj hi hj e
  obtain ⟨lh, e, -⟩ := fs_zero (hv := σ.1 15) (n := n) (law := σ.1 11 10) (wt := wtN (σ.1 15)) hlaw (fun l hl => ⟨by have := (h1.wt hl).1.2; omega, (h1.wt hl).2.1⟩) n (Nat.le_refl _)
  rw [hf] at e
  have hd : ∀ i, i < n → dgF n (cdF n f n) i = f i := fun i hi => by
    have := dg_cd (n := n) (k := n) (h := 0) (r := 0) (f := f) (by omega) hflt (by simp) hi
    rwa [Nat.pow_zero, Nat.mul_one, Nat.add_zero] at this
  have hon : ∀ l, l < n → ∃ i, i < n ∧ dgF n (cdF n f n) i = l := fun l hl => by
    obtain ⟨i, hi1, hi2⟩ := pg_onto n f hflt hfin l hl
    exact ⟨i, hi1, by rw [hd i hi1, hi2]⟩
  have hfs : FS σ n (dgF n (cdF n f n)) = some 0 := by
    show (fsR _ n _ (dgF n (cdF n f n)) n).map _ = some 0
    rw [fsR_congr2 hd (Nat.le_refl _), e]
    rfl
  have hcd : cdF n f n < n ^ n := by
    obtain ⟨r, hr, er⟩ := cdF_split (n := n) (f := f) (i := 0) n (fun a ha => hflt a (by omega))
    rw [Nat.zero_add] at er
    rw [er]
    show 0 * _ + r < _
    omega
  refine sch_F_some hcd (fun s => ?_)
  rw [Nat.zero_add]
  by_cases hs : s = none
  · subst hs
    unfold sch_M
    rw [cite_pos hon, hfs]
    show cite _ _ _ ≠ none
    rw [cite_pos ⟨fun h => absurd h (by decide), rfl⟩]
    exact fun e => by cases e
  · exact sch_M_some hs
end SH
