/-! LEAVES: memory, small numbers, the class's own rows -/
def mm_set (σ : mm_M) (k : Nat) (f : Nat → Int32) : mm_M := (va_up σ.1 k f, σ.2)
theorem mm_sti_set (σ : mm_M) (k j : Nat) (x : Int32) : mm_sti σ k j x = mm_set σ k (upd (σ.1 k) j x) := rfl
theorem mm_set_1 (σ : mm_M) (k i : Nat) (f : Nat → Int32) : (mm_set σ k f).1 i = if i = k then f else σ.1 i := rfl
theorem mm_set_2 (σ : mm_M) (k : Nat) (f : Nat → Int32) : (mm_set σ k f).2 = σ.2 := rfl
theorem mm_set_same (σ : mm_M) (k : Nat) (f : Nat → Int32) : (mm_set σ k f).1 k = f := by simp [mm_set_1]
theorem mm_set_ne (σ : mm_M) {k i : Nat} (f : Nat → Int32) (h : i ≠ k) : (mm_set σ k f).1 i = σ.1 i := by simp [mm_set_1, h]
theorem mm_set_set (σ : mm_M) (k : Nat) (f g : Nat → Int32) : mm_set (mm_set σ k f) k g = mm_set σ k g := by
  unfold mm_set
  congr 1
  funext i
  unfold va_up
  by_cases h : i = k <;> simp [h]
theorem mm_set_self (σ : mm_M) (k : Nat) : mm_set σ k (σ.1 k) = σ := by
  unfold mm_set
  congr 1
  funext i
  unfold va_up
  by_cases h : i = k <;> simp [h]
theorem mm_set_comm (σ : mm_M) {j k : Nat} (f g : Nat → Int32) (h : j ≠ k) : mm_set (mm_set σ j f) k g = mm_set (mm_set σ k g) j f := by
  unfold mm_set
  congr 1
  funext i
  unfold va_up
  by_cases h1 : i = k
  · subst h1; simp [Ne.symm h]
  · by_cases h2 : i = j <;> simp [h1, h2, h]
theorem upd_1 (f : Nat → Int32) (k i : Nat) (x : Int32) : upd f k x i = if i = k then x else f i := rfl
/-- a row read by a tested number -/
def atF (f : Nat → Int32) (n : Nat) (i : Int32) : Int32 := if i < 0 then 0 else if Int32.ofNat n ≤ i then 0 else f i.toNatClampNeg
theorem atF_in (f : Nat → Int32) {n k : Nat} (h : k < n) (hn : n < 2 ^ 31) : atF f n (nI k) = f k := by
  unfold atF
  rw [if_neg (nI_pos (by omega)), if_neg (show ¬ Int32.ofNat n ≤ nI k from nI_ge h hn), nI_clamp (by omega)]
/-- a row written by a tested number -/
def putF (f : Nat → Int32) (n : Nat) (i x : Int32) : Nat → Int32 := if i < 0 then f else if Int32.ofNat n ≤ i then f else upd f i.toNatClampNeg x
theorem putF_in (f : Nat → Int32) {n k : Nat} (x : Int32) (h : k < n) (hn : n < 2 ^ 31) : putF f n (nI k) x = upd f k x := by
  unfold putF
  rw [if_neg (nI_pos (by omega)), if_neg (show ¬ Int32.ofNat n ≤ nI k from nI_ge h hn), nI_clamp (by omega)]
theorem vp_in_of2 {i : Int32} {n : Nat} (h0 : ¬ i < 0) (h1 : ¬ Int32.ofNat n ≤ i) (hn : n < 2 ^ 31) : vp_in i n := by
  intro q
  rcases q with q | q
  · exact h0 q
  · obtain ⟨k, hk, rfl⟩ := nI_of h0
    rw [nI_clamp hk] at q
    exact h1 ((nI_leI hn hk).mpr q)
theorem s_isIn {d : Nat} {P : mm_O} {σ : mm_M} (x i : Int32) : mm_run shC (d + 1) 76 [.int x, .int i] σ P = P (some (.int (if (x >>> (i &&& 31)) &&& 1 = 0 then 0 else 1))) σ := by
  rw [in_X6_isIn]
  by_cases h : (x >>> (i &&& 31)) &&& 1 = 0 <;> simp [qX6_isIn_0, qX6_isIn_1, qX6_isIn_2, qX6_isIn_3, qX6_isIn_4, qX6_isIn_5, qX6_isIn_8, qX6_isIn_9, qX6_isIn_12, qX6_isIn_13, h]
theorem s_at {d : Nat} {P : mm_O} {σ : mm_M} {a n : Nat} (h : shC[a]? = some (.inl (.int, n))) (hn : n < 2 ^ 31) (i : Int32) : mm_run shC (d + 1) 77 [.ref a, .int i] σ P = P (some (.int (atF (σ.1 a) n i))) σ := by
  rw [in_X6_at]
  unfold atF
  by_cases h0 : i < 0
  · simp [qX6_at_0, qX6_at_1, qX6_at_4, qX6_at_5, qX6_at_6, qX6_at_7, qX6_at_10, qX6_at_11, qX6_at_12, qX6_at_13, qX6_at_16, qX6_at_17, h0]
  · by_cases h1 : Int32.ofNat n ≤ i
    · simp [qX6_at_0, qX6_at_1, qX6_at_4, qX6_at_5, qX6_at_6, qX6_at_7, qX6_at_10, qX6_at_11, qX6_at_12, qX6_at_13, qX6_at_16, qX6_at_17, h0, h1, qX6_at_6 h]
    · simp [qX6_at_0, qX6_at_1, qX6_at_4, qX6_at_5, qX6_at_6, qX6_at_7, qX6_at_10, qX6_at_11, qX6_at_12, qX6_at_13, qX6_at_16, qX6_at_17, h0, h1, qX6_at_6 h, qX6_at_12 h, vp_in_of2 h0 h1 hn]
theorem s_put {d : Nat} {P : mm_O} {σ : mm_M} {a n : Nat} (h : shC[a]? = some (.inl (.int, n))) (hn : n < 2 ^ 31) (i x : Int32) : mm_run shC (d + 1) 78 [.ref a, .int i, .int x] σ P = P none (mm_set σ a (putF (σ.1 a) n i x)) := by
  rw [in_X6_put]
  unfold putF
  by_cases h0 : i < 0
  · simp [qX6_put_0, qX6_put_1, qX6_put_4, qX6_put_5, qX6_put_6, qX6_put_7, qX6_put_10, qX6_put_11, qX6_put_12, qX6_put_13, qX6_put_14, h0, mm_set_self]
  · by_cases h1 : Int32.ofNat n ≤ i
    · simp [qX6_put_0, qX6_put_1, qX6_put_4, qX6_put_5, qX6_put_6, qX6_put_7, qX6_put_10, qX6_put_11, qX6_put_12, qX6_put_13, qX6_put_14, h0, h1, qX6_put_6 h, mm_set_self]
    · simp [qX6_put_0, qX6_put_1, qX6_put_4, qX6_put_5, qX6_put_6, qX6_put_7, qX6_put_10, qX6_put_11, qX6_put_12, qX6_put_13, qX6_put_14, h0, h1, qX6_put_6 h, qX6_put_13 h, vp_in_of2 h0 h1 hn, mm_sti_set]

theorem s_copyRow_loop {d : Nat} {P : mm_O} {a b n : Nat} (ha : shC[a]? = some (.inl (.int, n))) (hb : shC[b]? = some (.inl (.int, n))) (hab : a ≠ b) (hn : n < 2 ^ 31) : ∀ (j k : Nat) (σ : mm_M), j + k = n → mm_at shC d 79 [] P 2 [.ref a, .ref b, .int (nI k)] [] σ = P none (mm_set σ b (fun i => if k ≤ i ∧ i < n then σ.1 a i else σ.1 b i)) := by
  intro j
  induction j with
  | zero =>
    intro k σ hk
    have e : (fun i => if k ≤ i ∧ i < n then σ.1 a i else σ.1 b i) = σ.1 b := by
      funext i
      rw [if_neg (by omega)]
    rw [e, mm_set_self]
    have h1 : Int32.ofNat n ≤ nI k := nI_le (by omega) (by omega)
    simp [qX6_copyRow_0, qX6_copyRow_1, qX6_copyRow_2, qX6_copyRow_3, qX6_copyRow_4, qX6_copyRow_5, qX6_copyRow_8, qX6_copyRow_9, qX6_copyRow_10, qX6_copyRow_11, qX6_copyRow_14, qX6_copyRow_15, qX6_copyRow_16, qX6_copyRow_17, qX6_copyRow_18, qX6_copyRow_19, qX6_copyRow_20, qX6_copyRow_23, qX6_copyRow_26, qX6_copyRow_4 ha, h1]
  | succ j ih =>
    intro k σ hk
    have h1 : ¬ Int32.ofNat n ≤ nI k := nI_ge (by omega) (by omega)
    have h2 : vp_in (nI k) n := vp_in_nI (by omega) hn
    have h3 : (nI k).toNatClampNeg = k := nI_clamp (by omega)
    rw [qX6_copyRow_2]
    simp only [qX6_copyRow_0, qX6_copyRow_1, qX6_copyRow_3, qX6_copyRow_4, qX6_copyRow_5, qX6_copyRow_8, qX6_copyRow_9, qX6_copyRow_10, qX6_copyRow_11, qX6_copyRow_14, qX6_copyRow_15, qX6_copyRow_16, qX6_copyRow_17, qX6_copyRow_18, qX6_copyRow_19, qX6_copyRow_20, qX6_copyRow_23, qX6_copyRow_26, qX6_copyRow_4 ha, qX6_copyRow_10 hb, qX6_copyRow_18 ha, qX6_copyRow_19 hb, h1, h2, h3, if_false, true_and, mm_sti_set]
    rw [show nI k + 1 = nI (k + 1) from nI_1 k, ih (k + 1) _ (by omega), mm_set_set]
    congr 2
    funext i
    rw [mm_set_ne σ _ hab, mm_set_same, upd_1]
    by_cases hi : i = k
    · subst hi
      simp [show i < n by omega]
    · by_cases h4 : k ≤ i ∧ i < n
      · rw [if_pos (by omega), if_pos h4]
      · rw [if_neg (by omega), if_neg hi, if_neg h4]
theorem s_copyRow {d : Nat} {P : mm_O} {σ : mm_M} {a b n : Nat} (ha : shC[a]? = some (.inl (.int, n))) (hb : shC[b]? = some (.inl (.int, n))) (hab : a ≠ b) (hn : n < 2 ^ 31) : mm_run shC (d + 1) 79 [.ref a, .ref b] σ P = P none (mm_set σ b (fun i => if i < n then σ.1 a i else σ.1 b i)) := by
  rw [in_X6_copyRow]
  simp only [qX6_copyRow_0, qX6_copyRow_1, qX6_copyRow_3, qX6_copyRow_4, qX6_copyRow_5, qX6_copyRow_8, qX6_copyRow_9, qX6_copyRow_10, qX6_copyRow_11, qX6_copyRow_14, qX6_copyRow_15, qX6_copyRow_16, qX6_copyRow_17, qX6_copyRow_18, qX6_copyRow_19, qX6_copyRow_20, qX6_copyRow_23, qX6_copyRow_26]
  rw [show (0 : Int32) = nI 0 from rfl, s_copyRow_loop ha hb hab hn n 0 σ (by omega)]
  congr 2
  funext i
  simp
/-- sum of the first k -/
def sumF (f : Nat → Int32) : Nat → Int32
  | 0 => 0
  | k + 1 => sumF f k + f k
theorem s_sum_loop {d : Nat} {P : mm_O} {a n c : Nat} (ha : shC[a]? = some (.inl (.int, n))) (hc : c ≤ n) (hn : n < 2 ^ 31) : ∀ (j k : Nat) (σ : mm_M), j + k = c → mm_at shC (d + 1) 80 [] P 4 [.ref a, .int (nI c), .int (sumF (σ.1 a) k), .int (nI k)] [] σ = P (some (.int (sumF (σ.1 a) c))) σ := by
  intro j
  induction j with
  | zero =>
    intro k σ hk
    have hk : k = c := by omega
    subst hk
    simp [qX6_sum_0, qX6_sum_1, qX6_sum_2, qX6_sum_3, qX6_sum_4, qX6_sum_5, qX6_sum_6, qX6_sum_9, qX6_sum_10, qX6_sum_11, qX6_sum_12, qX6_sum_15, qX6_sum_16, qX6_sum_17, qX6_sum_20, qX6_sum_23, qX6_sum_24]
  | succ j ih =>
    intro k σ hk
    have h1 : ¬ nI c ≤ nI k := nI_ge (by omega) (by omega)
    rw [qX6_sum_4]
    simp only [qX6_sum_0, qX6_sum_1, qX6_sum_2, qX6_sum_3, qX6_sum_5, qX6_sum_6, qX6_sum_9, qX6_sum_10, qX6_sum_11, qX6_sum_12, qX6_sum_15, qX6_sum_16, qX6_sum_17, qX6_sum_20, qX6_sum_23, qX6_sum_24, s_at ha hn, h1, if_false, Option.toList, List.cons_append, List.nil_append]
    rw [atF_in (σ.1 a) (show k < n by omega) hn, show nI k + 1 = nI (k + 1) from nI_1 k]
    exact ih (k + 1) σ (by omega)
theorem s_sum {d : Nat} {P : mm_O} {σ : mm_M} {a n c : Nat} (ha : shC[a]? = some (.inl (.int, n))) (hc : c ≤ n) (hn : n < 2 ^ 31) : mm_run shC (d + 2) 80 [.ref a, .int (nI c)] σ P = P (some (.int (sumF (σ.1 a) c))) σ := by
  rw [in_X6_sum]
  simp only [qX6_sum_0, qX6_sum_1, qX6_sum_2, qX6_sum_3, qX6_sum_5, qX6_sum_6, qX6_sum_9, qX6_sum_10, qX6_sum_11, qX6_sum_12, qX6_sum_15, qX6_sum_16, qX6_sum_17, qX6_sum_20, qX6_sum_23, qX6_sum_24]
  exact s_sum_loop ha hc hn c 0 σ (by omega)
theorem s_sameRows_loop {d : Nat} {P : mm_O} {a b n m c : Nat} (ha : shC[a]? = some (.inl (.int, n))) (hb : shC[b]? = some (.inl (.int, m))) (hc : c ≤ n) (hcm : c ≤ m) (hn : n < 2 ^ 31) (hm : m < 2 ^ 31) : ∀ (j k : Nat) (σ : mm_M), j + k = c → (∀ i, i < k → σ.1 a i = σ.1 b i) → mm_at shC (d + 1) 81 [] P 2 [.ref a, .ref b, .int (nI c), .int (nI k)] [] σ = P (some (.int (if ∀ i, i < c → σ.1 a i = σ.1 b i then 1 else 0))) σ := by
  intro j
  induction j with
  | zero =>
    intro k σ hk hs
    have hk : k = c := by omega
    subst hk
    rw [if_pos hs]
    simp [qX6_sameRows_0, qX6_sameRows_1, qX6_sameRows_2, qX6_sameRows_3, qX6_sameRows_4, qX6_sameRows_7, qX6_sameRows_8, qX6_sameRows_9, qX6_sameRows_12, qX6_sameRows_13, qX6_sameRows_14, qX6_sameRows_17, qX6_sameRows_20, qX6_sameRows_21, qX6_sameRows_22, qX6_sameRows_25, qX6_sameRows_28, qX6_sameRows_29]
  | succ j ih =>
    intro k σ hk hs
    have h1 : ¬ nI c ≤ nI k := nI_ge (by omega) (by omega)
    rw [qX6_sameRows_2]
    simp only [qX6_sameRows_0, qX6_sameRows_1, qX6_sameRows_3, qX6_sameRows_4, qX6_sameRows_7, qX6_sameRows_8, qX6_sameRows_9, qX6_sameRows_12, qX6_sameRows_13, qX6_sameRows_14, qX6_sameRows_17, qX6_sameRows_20, qX6_sameRows_21, qX6_sameRows_22, qX6_sameRows_25, qX6_sameRows_28, qX6_sameRows_29, s_at ha hn, s_at hb hm, h1, if_false, Option.toList, List.cons_append, List.nil_append]
    rw [atF_in (σ.1 a) (show k < n by omega) hn, atF_in (σ.1 b) (show k < m by omega) hm]
    by_cases he : σ.1 a k = σ.1 b k
    · rw [if_pos he, show nI k + 1 = nI (k + 1) from nI_1 k]
      refine ih (k + 1) σ (by omega) (fun i hi => ?_)
      rcases Nat.lt_or_ge i k with h | h
      · exact hs i h
      · rw [show i = k by omega]; exact he
    · rw [if_neg he, if_neg (fun q => he (q k (by omega)))]
      simp
theorem s_sameRows {d : Nat} {P : mm_O} {σ : mm_M} {a b n m c : Nat} (ha : shC[a]? = some (.inl (.int, n))) (hb : shC[b]? = some (.inl (.int, m))) (hc : c ≤ n) (hcm : c ≤ m) (hn : n < 2 ^ 31) (hm : m < 2 ^ 31) : mm_run shC (d + 2) 81 [.ref a, .ref b, .int (nI c)] σ P = P (some (.int (if ∀ i, i < c → σ.1 a i = σ.1 b i then 1 else 0))) σ := by
  rw [in_X6_sameRows]
  simp only [qX6_sameRows_0, qX6_sameRows_1, qX6_sameRows_3, qX6_sameRows_4, qX6_sameRows_7, qX6_sameRows_8, qX6_sameRows_9, qX6_sameRows_12, qX6_sameRows_13, qX6_sameRows_14, qX6_sameRows_17, qX6_sameRows_20, qX6_sameRows_21, qX6_sameRows_22, qX6_sameRows_25, qX6_sameRows_28, qX6_sameRows_29]
  exact s_sameRows_loop ha hb hc hcm hn hm c 0 σ (by omega) (fun i hi => by omega)
