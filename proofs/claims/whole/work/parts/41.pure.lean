/-! ORDERS: all tried one by one, or grown letter by letter -/
noncomputable def cite {α : Type} (p : Prop) (x y : α) : α := @ite α p (Classical.propDecidable p) x y
theorem cite_pos {α : Type} {p : Prop} {x y : α} (h : p) : cite p x y = x := if_pos h
theorem cite_neg {α : Type} {p : Prop} {x y : α} (h : ¬ p) : cite p x y = y := if_neg h
def sch_btr (b : Bool) (w st : Nat) : Option (Nat × Nat × Nat) → Bool
  | none => true
  | some (bw, bs, _) => if b then decide (st < bs ∨ (st = bs ∧ w < bw)) else decide (w < bw ∨ (w = bw ∧ st < bs))
def cdF (n : Nat) (f : Nat → Nat) : Nat → Nat
  | 0 => 0
  | k + 1 => cdF n f k * n + f k
def dgF (n c i : Nat) : Nat := c / n ^ (n - 1 - i) % n
def updN (f : Nat → Nat) (k l : Nat) : Nat → Nat := fun i => if i = k then l else f i
def foldL {α : Type} (g : Nat → α → α) : Nat → α → α
  | 0, s => s
  | l + 1, s => g l (foldL g l s)
theorem cdF_congr {n : Nat} {f f' : Nat → Nat} : ∀ {k : Nat}, (∀ i, i < k → f i = f' i) → cdF n f k = cdF n f' k
  | 0, _ => rfl
  | k + 1, h => by unfold cdF; rw [cdF_congr (fun i hi => h i (by omega)), h k (by omega)]
theorem cdF_split {n : Nat} {f : Nat → Nat} {i : Nat} : ∀ (j : Nat), (∀ a, a < i + j → f a < n) → ∃ r, r < n ^ j ∧ cdF n f (i + j) = cdF n f i * n ^ j + r
  | 0, _ => ⟨0, by simp, by simp⟩
  | j + 1, h => by
    obtain ⟨r, hr, e⟩ := cdF_split (n := n) (f := f) (i := i) j (fun a ha => h a (by omega))
    have hf := h (i + j) (by omega)
    refine ⟨r * n + f (i + j), ?_, ?_⟩
    · have h1 : (r + 1) * n ≤ n ^ j * n := Nat.mul_le_mul_right n hr
      rw [Nat.pow_succ]
      rw [Nat.add_mul] at h1
      omega
    · show cdF n f (i + j) * n + f (i + j) = _
      rw [e, Nat.add_mul, Nat.pow_succ, Nat.mul_assoc, Nat.add_assoc]
theorem dg_cd {n k h r : Nat} {f : Nat → Nat} (hk : k + h = n) (hf : ∀ i, i < k → f i < n) (hr : r < n ^ h) {i : Nat} (hi : i < k) : dgF n (cdF n f k * n ^ h + r) i = f i := by
  obtain ⟨r', hr', e⟩ := cdF_split (n := n) (f := f) (i := i + 1) (k - (i + 1)) (fun a ha => hf a (by omega))
  rw [show i + 1 + (k - (i + 1)) = k by omega] at e
  have hp : n ^ (n - 1 - i) = n ^ (k - (i + 1)) * n ^ h := by rw [← Nat.pow_add]; congr 1; omega
  have hlt : r' * n ^ h + r < n ^ (k - (i + 1)) * n ^ h := by
    have h1 : (r' + 1) * n ^ h ≤ n ^ (k - (i + 1)) * n ^ h := Nat.mul_le_mul_right _ hr'
    rw [Nat.add_mul] at h1
    omega
  have hfi := hf i hi
  have hpos : 0 < n ^ (k - (i + 1)) * n ^ h := by omega
  unfold dgF
  rw [hp, e, Nat.add_mul, Nat.mul_assoc, Nat.add_assoc, Nat.mul_comm (cdF n f (i + 1)), Nat.mul_add_div hpos, Nat.div_eq_of_lt hlt, Nat.add_zero]
  show (cdF n f i * n + f i) % n = f i
  rw [Nat.mul_comm, Nat.mul_add_mod, Nat.mod_eq_of_lt hfi]
theorem onto_inj {n : Nat} {f : Nat → Nat} (h : ∀ l, l < n → ∃ i, i < n ∧ f i = l) {i k : Nat} (hik : i < k) (hk : k < n) : f i ≠ f k := by
  intro e
  obtain ⟨l, hl, ho⟩ := pg_free (n - 1) n (fun j => if j < k then f j else f (j + 1)) (by omega)
  obtain ⟨j, hj, ej⟩ := h l hl
  rcases Nat.lt_trichotomy j k with q | q | q
  · exact ho j (by omega) (by simp only [q, if_true]; exact ej)
  · exact ho i (by omega) (by simp only [hik, if_true]; rw [e, ← q]; exact ej)
  · exact ho (j - 1) (by omega) (by simp only [show ¬ (j - 1 < k) by omega, if_false]; rw [show j - 1 + 1 = j by omega]; exact ej)
section SCH
variable (n : Nat) (wk : (Nat → Nat) → Nat → Nat) (fs : (Nat → Nat) → Option Nat) (due : Nat → Nat) (b : Bool)
noncomputable def sch_M (s : Option (Nat × Nat × Nat)) (c : Nat) : Option (Nat × Nat × Nat) :=
  cite (∀ l, l < n → ∃ i, i < n ∧ dgF n c i = l) (match fs (dgF n c) with
    | none => s
    | some st => cite ((b = true → ∀ k, k < n → wk (dgF n c) (k + 1) ≤ due (dgF n c k)) ∧ sch_btr b (wk (dgF n c) n) st s = true) (some (wk (dgF n c) n, st, c)) s) s
noncomputable def sch_F (s : Option (Nat × Nat × Nat)) (a : Nat) : Nat → Option (Nat × Nat × Nat)
  | 0 => s
  | len + 1 => sch_M n wk fs due b (sch_F s a len) (a + len)
def sch_may (s : Option (Nat × Nat × Nat)) (l c : Nat) : Prop := if b then c ≤ due l else match s with
  | none => True
  | some (bw, _, _) => c ≤ bw
def sch_C (s : Option (Nat × Nat × Nat)) (f : Nat → Nat) : Option (Nat × Nat × Nat) :=
  match fs f with
  | none => s
  | some st => if sch_btr b (wk f n) st s = true then some (wk f n, st, cdF n f n) else s
noncomputable def sch_E : Nat → Nat → (Nat → Nat) → Option (Nat × Nat × Nat) → Option (Nat × Nat × Nat)
  | 0, _, f, s => sch_C n wk fs b s f
  | h + 1, k, f, s => foldL (fun l s => cite (∃ i, i < k ∧ f i = l) s (cite (sch_may due b s l (wk (updN f k l) (k + 1))) (sch_E h (k + 1) (updN f k l) s) s)) n s
variable {n} {wk} {fs} {due} {b}
theorem sch_F_add {s : Option (Nat × Nat × Nat)} {a x : Nat} : ∀ y, sch_F n wk fs due b s a (x + y) = sch_F n wk fs due b (sch_F n wk fs due b s a x) (a + x) y
  | 0 => rfl
  | y + 1 => by
    show sch_M n wk fs due b (sch_F n wk fs due b s a (x + y)) (a + (x + y)) = sch_M n wk fs due b (sch_F n wk fs due b (sch_F n wk fs due b s a x) (a + x) y) (a + x + y)
    rw [sch_F_add y, Nat.add_assoc]
theorem sch_F_id {s : Option (Nat × Nat × Nat)} {a : Nat} : ∀ {len : Nat}, (∀ r, r < len → sch_M n wk fs due b s (a + r) = s) → sch_F n wk fs due b s a len = s
  | 0, _ => rfl
  | len + 1, h => by
    show sch_M n wk fs due b (sch_F n wk fs due b s a len) (a + len) = s
    rw [sch_F_id (fun r hr => h r (by omega)), h len (by omega)]
theorem wk_le (hm : ∀ f k, wk f k ≤ wk f (k + 1)) (f : Nat → Nat) (k : Nat) : ∀ j, wk f k ≤ wk f (k + j)
  | 0 => Nat.le_refl _
  | j + 1 => Nat.le_trans (wk_le hm f k j) (hm f (k + j))
theorem sch_sub (hwk : ∀ f f' k, k ≤ n → (∀ i, i < k → f i = f' i) → wk f k = wk f' k) (hm : ∀ f k, wk f k ≤ wk f (k + 1)) (hfs : ∀ f f', (∀ i, i < n → f i = f' i) → fs f = fs f') : ∀ (h k : Nat) (f : Nat → Nat) (s : Option (Nat × Nat × Nat)), k + h = n → (∀ i, i < k → f i < n) → (∀ i j, i < k → j < k → f i = f j → i = j) → (b = true → ∀ i, i < k → wk f (i + 1) ≤ due (f i)) → sch_E n wk fs due b h k f s = sch_F n wk fs due b s (cdF n f k * n ^ h) (n ^ h) := by
  intro h
  induction h with
  | zero =>
    intro k f s hk hf hi ht
    have hk : k = n := by omega
    subst hk
    have e : ∀ i, i < k → dgF k (cdF k f k) i = f i := fun i hi => by
      have := dg_cd (n := k) (k := k) (h := 0) (r := 0) (f := f) (by omega) hf (by simp) hi
      simpa using this
    have hon : ∀ l, l < k → ∃ i, i < k ∧ dgF k (cdF k f k) i = l := fun l hl => by
      obtain ⟨i, hi1, hi2⟩ := pg_onto k f hf hi l hl
      exact ⟨i, hi1, by rw [e i hi1, hi2]⟩
    have ew : ∀ j, j ≤ k → wk (dgF k (cdF k f k)) j = wk f j := fun j hj => hwk _ _ j hj (fun i hi => e i (by omega))
    show sch_C k wk fs b s f = sch_M k wk fs due b s (cdF k f k * k ^ 0 + 0)
    rw [Nat.pow_zero, Nat.mul_one, Nat.add_zero]
    unfold sch_C sch_M
    rw [cite_pos hon, hfs _ _ e, ew k (Nat.le_refl _)]
    cases fs f with
    | none => rfl
    | some st =>
      have hT : b = true → ∀ j, j < k → wk (dgF k (cdF k f k)) (j + 1) ≤ due (dgF k (cdF k f k) j) := fun hb j hj => by
        rw [ew (j + 1) (by omega), e j hj]; exact ht hb j hj
      by_cases hq : sch_btr b (wk f k) st s = true
      · exact (if_pos hq).trans (cite_pos (And.intro hT hq)).symm
      · exact (if_neg hq).trans (cite_neg (fun q => hq (And.right q))).symm
  | succ h ih =>
    intro k f s hk hf hi ht
    have key : ∀ m, m ≤ n → foldL (fun l s => cite (∃ i, i < k ∧ f i = l) s (cite (sch_may due b s l (wk (updN f k l) (k + 1))) (sch_E n wk fs due b h (k + 1) (updN f k l) s) s)) m s = sch_F n wk fs due b s (cdF n f k * n ^ (h + 1)) (m * n ^ h) := by
      intro m
      induction m with
      | zero => intro _; rw [Nat.zero_mul]; rfl
      | succ l ihl =>
        intro hm1
        have hl : l < n := by omega
        rw [foldL, ihl (by omega), Nat.add_mul, Nat.one_mul, sch_F_add]
        generalize hs' : sch_F n wk fs due b s (cdF n f k * n ^ (h + 1)) (l * n ^ h) = s'
        have hf' : ∀ i, i < k + 1 → updN f k l i < n := fun i hi => by
          unfold updN
          by_cases e : i = k
          · rw [if_pos e]; exact hl
          · rw [if_neg e]; exact hf i (by omega)
        have hcd : cdF n (updN f k l) (k + 1) = cdF n f k * n + l := by
          show cdF n (updN f k l) k * n + updN f k l k = _
          rw [cdF_congr (f' := f) (fun i hi => by unfold updN; rw [if_neg (by omega)])]
          unfold updN
          rw [if_pos rfl]
        have hbl : cdF n f k * n ^ (h + 1) + l * n ^ h = cdF n (updN f k l) (k + 1) * n ^ h := by
          rw [hcd, Nat.add_mul, Nat.pow_succ, Nat.mul_comm (n ^ h) n, Nat.mul_assoc]
        rw [hbl]
        have dig : ∀ r, r < n ^ h → ∀ i, i < k + 1 → dgF n (cdF n (updN f k l) (k + 1) * n ^ h + r) i = updN f k l i := fun r hr i hi => dg_cd (by omega) hf' hr hi
        have old : ∀ i, i < k → updN f k l i = f i := fun i hi => by unfold updN; rw [if_neg (by omega)]
        have new : updN f k l k = l := by unfold updN; rw [if_pos rfl]
        by_cases hin : ∃ i, i < k ∧ f i = l
        · rw [cite_pos hin]
          obtain ⟨i, hik, hil⟩ := hin
          refine (sch_F_id (fun r hr => ?_)).symm
          unfold sch_M
          rw [cite_neg]
          intro hon
          refine onto_inj hon hik (by omega) ?_
          rw [dig r hr i (by omega), dig r hr k (by omega), old i hik, new]
          exact hil
        · rw [cite_neg hin]
          by_cases hmay : sch_may due b s' l (wk (updN f k l) (k + 1))
          · rw [cite_pos hmay]
            refine ih (k + 1) (updN f k l) s' (by omega) hf' (fun i j hi1 hj1 e => ?_) (fun hb i hi1 => ?_)
            · by_cases e1 : i = k
              · by_cases e2 : j = k
                · omega
                · rw [e1, new, old j (by omega)] at e
                  exact absurd ⟨j, by omega, e.symm⟩ hin
              · by_cases e2 : j = k
                · rw [e2, new, old i (by omega)] at e
                  exact absurd ⟨i, by omega, e⟩ hin
                · rw [old i (by omega), old j (by omega)] at e
                  exact hi i j (by omega) (by omega) e
            · by_cases e1 : i = k
              · subst e1
                rw [new]
                unfold sch_may at hmay
                rw [if_pos hb] at hmay
                exact hmay
              · rw [old i (by omega), hwk (updN f k l) f (i + 1) (by omega) (fun a ha => old a (by omega))]
                exact ht hb i (by omega)
          · rw [cite_neg hmay]
            refine (sch_F_id (fun r hr => ?_)).symm
            have hd := dig r hr
            generalize cdF n (updN f k l) (k + 1) * n ^ h + r = c at hd
            have ew : wk (dgF n c) (k + 1) = wk (updN f k l) (k + 1) := hwk _ _ _ (by omega) hd
            unfold sch_M
            by_cases hon : ∀ l, l < n → ∃ i, i < n ∧ dgF n c i = l
            · rw [cite_pos hon]
              cases fs (dgF n c) with
              | none => rfl
              | some st =>
                refine cite_neg (fun q => ?_)
                unfold sch_may at hmay
                cases hb : b with
                | true =>
                  rw [hb] at hmay q
                  have := q.1 rfl k (by omega)
                  rw [ew, hd k (by omega), new] at this
                  exact hmay this
                | false =>
                  rw [hb] at hmay q
                  cases hs : s' with
                  | none => rw [hs] at hmay; exact hmay trivial
                  | some x =>
                    obtain ⟨bw, bs, bc⟩ := x
                    rw [hs] at hmay q
                    have h1 : ¬ wk (updN f k l) (k + 1) ≤ bw := hmay
                    have h2 := wk_le hm (dgF n c) (k + 1) h
                    rw [show k + 1 + h = n by omega, ew] at h2
                    have h3 := of_decide_eq_true (show decide (wk (dgF n c) n < bw ∨ (wk (dgF n c) n = bw ∧ st < bs)) = true from q.2)
                    omega
            · rw [cite_neg hon]
    have := key n (Nat.le_refl _)
    rw [show n * n ^ h = n ^ (h + 1) by rw [Nat.pow_succ, Nat.mul_comm]] at this
    exact this
end SCH
