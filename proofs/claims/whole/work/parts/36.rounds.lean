/-! ROUNDS: what a round does, when it comes to rest -/
def rdG (A : (Nat → Int32) → Nat → Nat) (s : Nat → Int32) : Nat → Nat → Int32
  | 0 => s
  | l + 1 => upd (rdG A s l) l (nI (A (rdG A s l) l))
def chG (A : (Nat → Int32) → Nat → Nat) (s : Nat → Int32) : Nat → Bool
  | 0 => false
  | l + 1 => chG A s l || decide (nI (A (rdG A s l) l) ≠ s l)
def stG (A : (Nat → Int32) → Nat → Nat) (n : Nat) (s : Nat → Int32) : Nat → Nat → Int32
  | 0 => s
  | r + 1 => rdG A (stG A n s r) n
def qG (A : (Nat → Int32) → Nat → Nat) (n : Nat) (s : Nat → Int32) (r : Nat) : Bool := chG A (stG A n s r) n
section RD
variable {A : (Nat → Int32) → Nat → Nat}
theorem rdG_o {s : Nat → Int32} {i : Nat} : ∀ {l : Nat}, l ≤ i → rdG A s l i = s i
  | 0, _ => rfl
  | l + 1, h => by unfold rdG; rw [upd_1, if_neg (by omega)]; exact rdG_o (by omega)
theorem chG_no {s : Nat → Int32} : ∀ {l : Nat}, chG A s l = false → rdG A s l = s
  | 0, _ => rfl
  | l + 1, h => by
    unfold chG at h
    rw [Bool.or_eq_false_iff] at h
    have e := chG_no h.1
    have e2 : nI (A (rdG A s l) l) = s l := by have := of_decide_eq_false h.2; exact Decidable.not_not.mp this
    unfold rdG
    rw [e2, e, upd_self]
theorem stG_o {n i : Nat} {s : Nat → Int32} (h : n ≤ i) : ∀ r, stG A n s r i = s i
  | 0 => rfl
  | r + 1 => by unfold stG; rw [rdG_o h]; exact stG_o h r
theorem rdG_b {n : Nat} {s : Nat → Int32} (hA : ∀ s l, A s l ≤ 9) (hs : ∀ i, i < n → rg (s i) 0 9) : ∀ l, ∀ i, i < n → rg (rdG A s l i) 0 9
  | 0 => hs
  | l + 1 => fun i hi => by
    unfold rdG
    rw [upd_1]
    by_cases e : i = l
    · rw [if_pos e]; exact ⟨_, Nat.zero_le _, hA _ _, rfl⟩
    · rw [if_neg e]; exact rdG_b hA hs l i hi
theorem stG_b {n : Nat} {s : Nat → Int32} (hA : ∀ s l, A s l ≤ 9) (hs : ∀ i, i < n → rg (s i) 0 9) : ∀ r, ∀ i, i < n → rg (stG A n s r i) 0 9
  | 0 => hs
  | r + 1 => by unfold stG; exact rdG_b hA (stG_b hA hs r) n
theorem stG_per {n k r : Nat} {s : Nat → Int32} (h : stG A n s (r + 1) = stG A n s k) : ∀ i, stG A n s (r + 1 + i) = stG A n s (k + i)
  | 0 => h
  | i + 1 => by
    show rdG A (stG A n s (r + 1 + i)) n = rdG A (stG A n s (k + i)) n
    rw [stG_per h i]
theorem qG_per {n k r : Nat} {s : Nat → Int32} (hk : k ≤ r) (h : stG A n s (r + 1) = stG A n s k) (hq : ∀ i, i ≤ r → qG A n s i = true) (m : Nat) : qG A n s m = true := by
  induction m using Nat.strongRecOn with
  | _ m ih =>
    by_cases hm : m ≤ r
    · exact hq m hm
    · have e : qG A n s m = qG A n s (k + (m - (r + 1))) := by
        unfold qG
        rw [← stG_per h (m - (r + 1)), show r + 1 + (m - (r + 1)) = m by omega]
      rw [e]
      exact ih _ (by omega)
end RD
theorem ex_R (q : Nat → Bool) : ∀ m, ∃ R, R ≤ m ∧ (∀ i, i < R → q i = true) ∧ (R < m → q R = false)
  | 0 => ⟨0, Nat.le_refl _, fun i hi => by omega, fun h => by omega⟩
  | m + 1 => by
    obtain ⟨R, h1, h2, h3⟩ := ex_R q m
    by_cases hR : R < m
    · exact ⟨R, by omega, h2, fun _ => h3 hR⟩
    · have : R = m := by omega
      subst this
      cases e : q R with
      | true => exact ⟨R + 1, by omega, fun i hi => by
          rcases Nat.lt_or_ge i R with h | h
          · exact h2 i h
          · rw [show i = R by omega]; exact e, fun h => by omega⟩
      | false => exact ⟨R, by omega, h2, fun _ => e⟩
theorem rd_rel {A A' : (Nat → Int32) → Nat → Nat} {n : Nat} (hA : ∀ s s' l, l < n → (∀ i, i < n → s i = s' i) → A s l = A' s' l) {s s' : Nat → Int32} (hs : ∀ i, i < n → s i = s' i) : ∀ l, l ≤ n → (∀ i, i < n → rdG A s l i = rdG A' s' l i) ∧ chG A s l = chG A' s' l
  | 0, _ => ⟨hs, rfl⟩
  | l + 1, hl => by
    obtain ⟨i1, i2⟩ := rd_rel hA hs l (by omega)
    have e := hA _ _ l (by omega) i1
    refine ⟨fun i hi => ?_, ?_⟩
    · unfold rdG
      rw [upd_1, upd_1, e, i1 i hi]
    · unfold chG
      rw [i2, e, hs l (by omega)]
theorem st_rel {A A' : (Nat → Int32) → Nat → Nat} {n : Nat} (hA : ∀ s s' l, l < n → (∀ i, i < n → s i = s' i) → A s l = A' s' l) {s s' : Nat → Int32} (hs : ∀ i, i < n → s i = s' i) : ∀ r, (∀ i, i < n → stG A n s r i = stG A' n s' r i)
  | 0 => hs
  | r + 1 => by unfold stG; exact (rd_rel hA (st_rel hA hs r) n (Nat.le_refl _)).1
theorem q_rel {A A' : (Nat → Int32) → Nat → Nat} {n : Nat} (hA : ∀ s s' l, l < n → (∀ i, i < n → s i = s' i) → A s l = A' s' l) {s s' : Nat → Int32} (hs : ∀ i, i < n → s i = s' i) (r : Nat) : qG A n s r = qG A' n s' r := (rd_rel hA (st_rel hA hs r) n (Nat.le_refl _)).2
/-- stones in one number -/
def pkF (s : Nat → Int32) : Nat → Int32
  | 0 => 0
  | k + 1 => pkF s k * 10 + s k
def pkN (t : Nat → Nat) : Nat → Nat
  | 0 => 0
  | k + 1 => pkN t k * 10 + t k
theorem pkN_lt {t : Nat → Nat} : ∀ {n : Nat}, (∀ i, i < n → t i ≤ 9) → pkN t n < 10 ^ n
  | 0, _ => Nat.lt_succ_self 0
  | n + 1, h => by
    have := pkN_lt (n := n) (fun i hi => h i (by omega))
    have := h n (by omega)
    unfold pkN
    rw [Nat.pow_succ]
    omega
theorem pkN_inj {t t' : Nat → Nat} : ∀ {n : Nat}, (∀ i, i < n → t i ≤ 9) → (∀ i, i < n → t' i ≤ 9) → pkN t n = pkN t' n → ∀ i, i < n → t i = t' i
  | 0, _, _, _ => fun i hi => by omega
  | n + 1, h, h', e => by
    unfold pkN at e
    have a := h n (by omega)
    have b := h' n (by omega)
    have ih := pkN_inj (n := n) (fun i hi => h i (by omega)) (fun i hi => h' i (by omega)) (by omega)
    intro i hi
    rcases Nat.lt_or_ge i n with q | q
    · exact ih i q
    · rw [show i = n by omega]; omega
theorem pkF_N {s : Nat → Int32} {t : Nat → Nat} : ∀ {n : Nat}, (∀ i, i < n → s i = nI (t i)) → pkF s n = nI (pkN t n)
  | 0, _ => rfl
  | n + 1, h => by
    unfold pkF pkN
    rw [pkF_N (fun i hi => h i (by omega)), h n (by omega), show (10 : Int32) = nI 10 from rfl, show nI (pkN t n) * nI 10 = nI (pkN t n * 10) from (Int32.ofNat_mul _ _).symm, nI_add]
theorem pkF_add (s : Nat → Int32) (n : Nat) : ∀ j, pkF s (n + j) = pkF s n * nI (10 ^ j) + pkF (fun i => s (n + i)) j
  | 0 => by show pkF s n = pkF s n * 1 + 0; rw [Int32.mul_one, Int32.add_zero]
  | j + 1 => by
    show pkF s (n + j) * 10 + s (n + j) = _
    rw [pkF_add s n j, Nat.pow_succ, show nI (10 ^ j * 10) = nI (10 ^ j) * 10 from Int32.ofNat_mul _ _]
    show _ = _ + (pkF (fun i => s (n + i)) j * 10 + s (n + j))
    rw [Int32.add_mul, Int32.mul_assoc, Int32.add_assoc]
theorem pk_inj {s s' : Nat → Int32} {n : Nat} (hn : n ≤ 7) (hs : ∀ i, i < n → rg (s i) 0 9) (hs' : ∀ i, i < n → rg (s' i) 0 9) (ho : ∀ i, n ≤ i → s i = s' i) (h : pkF s 7 = pkF s' 7) : s = s' := by
  have e := pkF_add s n (7 - n)
  have e' := pkF_add s' n (7 - n)
  rw [show n + (7 - n) = 7 by omega] at e e'
  rw [e, e', show (fun i => s (n + i)) = (fun i => s' (n + i)) from funext fun i => ho _ (by omega), Int32.add_left_inj] at h
  have t1 : ∀ i, i < n → s i = nI (s i).toNatClampNeg ∧ (s i).toNatClampNeg ≤ 9 := fun i hi => by have := rg_in (hs i hi) (by decide); exact ⟨this.1, this.2.2⟩
  have t2 : ∀ i, i < n → s' i = nI (s' i).toNatClampNeg ∧ (s' i).toNatClampNeg ≤ 9 := fun i hi => by have := rg_in (hs' i hi) (by decide); exact ⟨this.1, this.2.2⟩
  rw [pkF_N (fun i hi => (t1 i hi).1), pkF_N (fun i hi => (t2 i hi).1), show ∀ a b, nI a * nI b = nI (a * b) from fun a b => (Int32.ofNat_mul a b).symm, show ∀ a b, nI a * nI b = nI (a * b) from fun a b => (Int32.ofNat_mul a b).symm] at h
  have b1 := pkN_lt (fun i hi => (t1 i hi).2)
  have b2 := pkN_lt (fun i hi => (t2 i hi).2)
  have hp : 10 ^ n * 10 ^ (7 - n) = 10000000 := by rw [← Nat.pow_add, show n + (7 - n) = 7 by omega]
  have hp0 : 0 < 10 ^ (7 - n) := Nat.pow_pos (by decide)
  have c1 := Nat.mul_lt_mul_of_pos_right b1 hp0
  have c2 := Nat.mul_lt_mul_of_pos_right b2 hp0
  rw [hp] at c1 c2
  have h2 := congrArg Int32.toNatClampNeg h
  rw [nI_clamp (by omega), nI_clamp (by omega)] at h2
  have h3 := Nat.eq_of_mul_eq_mul_right hp0 h2
  have h4 := pkN_inj (fun i hi => (t1 i hi).2) (fun i hi => (t2 i hi).2) h3
  funext i
  rcases Nat.lt_or_ge i n with q | q
  · rw [(t1 i q).1, (t2 i q).1, h4 i q]
  · exact ho i q
theorem s_packed_loop {d : Nat} {P : mm_O} {σ : mm_M} : ∀ (j k : Nat), j + k = 7 → mm_at shC (d + 1) 37 [] P 4 [.ref 26, .int (pkF (σ.1 27) k), .int (nI k)] [] σ = P (some (.int (pkF (σ.1 27) 7))) σ := by
  intro j
  induction j with
  | zero =>
    intro k hk
    have hk : k = 7 := by omega
    subst hk
    rw [qX4_packed_4]
    simp only [qX4_packed_0, qX4_packed_1, qX4_packed_2, qX4_packed_3, qX4_packed_5, qX4_packed_7, qX4_packed_10, qX4_packed_11, qX4_packed_13, qX4_packed_14, qX4_packed_15, qX4_packed_18, qX4_packed_19, qX4_packed_22, qX4_packed_23, qX4_packed_24, qX4_packed_27, qX4_packed_30, qX4_packed_31, show (7 : Int32) ≤ nI 7 by decide, if_true]
  | succ j ih =>
    intro k hk
    have h1 : ¬ (7 : Int32) ≤ nI k := show ¬ nI 7 ≤ nI k from nI_ge (by omega) (by decide)
    rw [qX4_packed_4]
    simp only [qX4_packed_0, qX4_packed_1, qX4_packed_2, qX4_packed_3, qX4_packed_5, qX4_packed_7, qX4_packed_10, qX4_packed_11, qX4_packed_13, qX4_packed_14, qX4_packed_15, qX4_packed_18, qX4_packed_19, qX4_packed_22, qX4_packed_23, qX4_packed_24, qX4_packed_27, qX4_packed_30, qX4_packed_31, h1, if_false, s_at (show shC[27]? = some (.inl (.int, 7)) from rfl) (show 7 < 2 ^ 31 by decide), atF_in _ (show k < 7 by omega) (show 7 < 2 ^ 31 by decide), Option.toList, List.cons_append, List.nil_append, nI_1]
    exact ih (k + 1) (by omega)
theorem s_packed {d : Nat} {P : mm_O} {σ : mm_M} : mm_run shC (d + 2) 37 [.ref 26] σ P = P (some (.int (pkF (σ.1 27) 7))) σ := by
  rw [in_X4_packed]
  simp only [qX4_packed_0, qX4_packed_1, qX4_packed_2, qX4_packed_3, qX4_packed_5, qX4_packed_7, qX4_packed_10, qX4_packed_11, qX4_packed_13, qX4_packed_14, qX4_packed_15, qX4_packed_18, qX4_packed_19, qX4_packed_22, qX4_packed_23, qX4_packed_24, qX4_packed_27, qX4_packed_30, qX4_packed_31]
  exact s_packed_loop 7 0 (by omega)
theorem wasSeen_loop {σ : mm_M} {m : Nat} (hm : m ≤ 30) : ∀ (j k : Nat), j + k = m → ∃ b : Bool, (b = true → ∃ i, i < m ∧ σ.1 32 i = pkF (σ.1 27) 7) ∧ ∀ (d : Nat) (P : mm_O), mm_at shC (d + 2) 36 [] P 7 [.ref 26, .int (nI m), .int (pkF (σ.1 27) 7), .int (nI k)] [] σ = P (some (.int (bI b))) σ := by
  intro j
  induction j with
  | zero =>
    intro k hk
    have hk : k = m := by omega
    subst hk
    refine ⟨false, fun h => by simp at h, fun d P => ?_⟩
    rw [qX4_wasSeen_7]
    simp only [qX4_wasSeen_0, qX4_wasSeen_1, qX4_wasSeen_4, qX4_wasSeen_5, qX4_wasSeen_6, qX4_wasSeen_8, qX4_wasSeen_9, qX4_wasSeen_12, qX4_wasSeen_13, qX4_wasSeen_16, qX4_wasSeen_17, qX4_wasSeen_20, qX4_wasSeen_21, qX4_wasSeen_24, qX4_wasSeen_25, qX4_wasSeen_26, qX4_wasSeen_29, qX4_wasSeen_32, qX4_wasSeen_33, show nI k ≤ nI k from Int32.le_refl _, if_true]
    simp [bI]
  | succ j ih =>
    intro k hk
    have h1 : ¬ nI m ≤ nI k := nI_ge (by omega) (by omega)
    by_cases e : σ.1 32 k = pkF (σ.1 27) 7
    · refine ⟨true, fun _ => ⟨k, by omega, e⟩, fun d P => ?_⟩
      rw [qX4_wasSeen_7]
      simp only [qX4_wasSeen_0, qX4_wasSeen_1, qX4_wasSeen_4, qX4_wasSeen_5, qX4_wasSeen_6, qX4_wasSeen_8, qX4_wasSeen_9, qX4_wasSeen_12, qX4_wasSeen_13, qX4_wasSeen_16, qX4_wasSeen_17, qX4_wasSeen_20, qX4_wasSeen_21, qX4_wasSeen_24, qX4_wasSeen_25, qX4_wasSeen_26, qX4_wasSeen_29, qX4_wasSeen_32, qX4_wasSeen_33, h1, if_false, s_at (show shC[32]? = some (.inl (.int, 30)) from rfl) (show 30 < 2 ^ 31 by decide), atF_in _ (show k < 30 by omega) (show 30 < 2 ^ 31 by decide), Option.toList, List.cons_append, List.nil_append, e, if_true]
      simp [bI]
    · obtain ⟨b, i1, i2⟩ := ih (k + 1) (by omega)
      refine ⟨b, i1, fun d P => ?_⟩
      rw [← i2 d P, qX4_wasSeen_7]
      simp only [qX4_wasSeen_0, qX4_wasSeen_1, qX4_wasSeen_4, qX4_wasSeen_5, qX4_wasSeen_6, qX4_wasSeen_8, qX4_wasSeen_9, qX4_wasSeen_12, qX4_wasSeen_13, qX4_wasSeen_16, qX4_wasSeen_17, qX4_wasSeen_20, qX4_wasSeen_21, qX4_wasSeen_24, qX4_wasSeen_25, qX4_wasSeen_26, qX4_wasSeen_29, qX4_wasSeen_32, qX4_wasSeen_33, h1, if_false, s_at (show shC[32]? = some (.inl (.int, 30)) from rfl) (show 30 < 2 ^ 31 by decide), atF_in _ (show k < 30 by omega) (show 30 < 2 ^ 31 by decide), Option.toList, List.cons_append, List.nil_append, e, nI_1]
theorem s_wasSeen {σ : mm_M} {m : Nat} (hm : m ≤ 30) : ∃ b : Bool, (b = true → ∃ i, i < m ∧ σ.1 32 i = pkF (σ.1 27) 7) ∧ ∀ (d : Nat) (P : mm_O), mm_run shC (d + 3) 36 [.ref 26, .int (nI m)] σ P = P (some (.int (bI b))) σ := by
  obtain ⟨b, h1, h2⟩ := wasSeen_loop (σ := σ) hm m 0 (by omega)
  refine ⟨b, h1, fun d P => ?_⟩
  rw [← h2 d P, in_X4_wasSeen]
  simp only [qX4_wasSeen_0, qX4_wasSeen_1, qX4_wasSeen_4, qX4_wasSeen_5, qX4_wasSeen_6, qX4_wasSeen_8, qX4_wasSeen_9, qX4_wasSeen_12, qX4_wasSeen_13, qX4_wasSeen_16, qX4_wasSeen_17, qX4_wasSeen_20, qX4_wasSeen_21, qX4_wasSeen_24, qX4_wasSeen_25, qX4_wasSeen_26, qX4_wasSeen_29, qX4_wasSeen_32, qX4_wasSeen_33, s_packed, Option.toList, List.cons_append, List.nil_append]
  rfl
