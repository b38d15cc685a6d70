/-! THE TEXT: blanks, letters, figures -/
def spn (c : Nat → Bool) : Nat → Nat → Nat
  | 0, p => p
  | j + 1, p => if c p = true then spn c j (p + 1) else p
/-- where a run of bytes ends -/
def enF_ (c : Nat → Bool) (T p : Nat) : Nat := spn c (T - p) p
theorem en_go {c : Nat → Bool} {T p : Nat} (h : p < T) (hc : c p = true) : enF_ c T p = enF_ c T (p + 1) := by
  unfold enF_
  rw [show T - p = T - (p + 1) + 1 by omega, spn, if_pos hc]
theorem en_no {c : Nat → Bool} {T p : Nat} (hc : c p = false) : enF_ c T p = p := by
  unfold enF_
  cases T - p with
  | zero => rfl
  | succ j => rw [spn, if_neg (by rw [hc]; decide)]
theorem en_end {c : Nat → Bool} {T p : Nat} (h : T ≤ p) : enF_ c T p = p := by
  unfold enF_
  rw [show T - p = 0 by omega]
  rfl
theorem spn_b {c : Nat → Bool} : ∀ j p, p ≤ spn c j p ∧ spn c j p ≤ p + j ∧ (∀ i, p ≤ i → i < spn c j p → c i = true) ∧ (spn c j p < p + j → c (spn c j p) = false)
  | 0, p => ⟨Nat.le_refl _, Nat.le_refl _, fun i a b => by unfold spn at b; omega, fun h => by unfold spn at h; omega⟩
  | j + 1, p => by
    obtain ⟨a, b, d, e⟩ := spn_b (c := c) j (p + 1)
    rw [spn]
    by_cases hc : c p = true
    · rw [if_pos hc]
      refine ⟨by omega, by omega, fun i h1 h2 => ?_, fun h => e (by omega)⟩
      by_cases hi : i = p
      · rw [hi]; exact hc
      · exact d i (by omega) h2
    · rw [if_neg hc]
      refine ⟨Nat.le_refl _, by omega, fun i h1 h2 => by omega, fun _ => by simpa using hc⟩
theorem en_b {c : Nat → Bool} {T p : Nat} (h : p ≤ T) : p ≤ enF_ c T p ∧ enF_ c T p ≤ T ∧ (∀ i, p ≤ i → i < enF_ c T p → c i = true) ∧ (enF_ c T p < T → c (enF_ c T p) = false) := by
  have := spn_b (c := c) (T - p) p
  unfold enF_
  exact ⟨this.1, by omega, this.2.2.1, fun q => this.2.2.2 (by omega)⟩
theorem en_id {c : Nat → Bool} {T p : Nat} (h : p ≤ T) : enF_ c T (enF_ c T p) = enF_ c T p := by
  obtain ⟨-, b, -, e⟩ := en_b (c := c) h
  by_cases q : enF_ c T p < T
  · exact en_no (e q)
  · exact en_end (by omega)
def sbI (b : Nat) : Int32 := (nI b).toInt8.toInt32
theorem sb_all : ∀ b, b < 256 → (b < 128 → sbI b = nI b) ∧ (128 ≤ b → sbI b < 0) := by decide +kernel
theorem sb_eq {b c : Nat} (hb : b < 256) (hc : c < 128) : sbI b = nI c ↔ b = c := by
  by_cases h : b < 128
  · rw [(sb_all b hb).1 h, nI_eq2 (by omega) (by omega)]
  · have := (sb_all b hb).2 (by omega)
    constructor
    · intro e; rw [e] at this; exact absurd this (nI_neg (by omega))
    · intro e; omega
theorem sb_lt {b c : Nat} (hb : b < 256) (hc : c < 128) : sbI b < nI c ↔ (b < c ∨ 128 ≤ b) := by
  by_cases h : b < 128
  · rw [(sb_all b hb).1 h, nI_add_lt (by omega) (by omega)]
    omega
  · have := (sb_all b hb).2 (by omega)
    exact ⟨fun _ => Or.inr (by omega), fun _ => Int32.lt_of_lt_of_le this (nI_pos' (by omega))⟩
/-- the text on the class's side, on the reference's -/
def TXC (σ : mm_M) (B : Nat → Nat) (T : Nat) : Prop := T ≤ 400 ∧ σ.1 1 2 = nI T ∧ ∀ k, k < T → B k < 256 ∧ σ.1 2 k = sbI (B k)
def TXM (μ : mm_M) (B : Nat → Nat) (T : Nat) : Prop := T ≤ 400 ∧ μ.1 0 13 = nI T ∧ ∀ k, k < T → B k < 256 ∧ μ.1 8 k = nI (B k)
def isB (B : Nat → Nat) (i : Nat) : Bool := decide (B i = 32)
def isF (B : Nat → Nat) (i : Nat) : Bool := decide (48 ≤ B i ∧ B i ≤ 57)
def isL (B : Nat → Nat) (i : Nat) : Bool := decide (97 ≤ B i ∧ B i ≤ 122)
section TX
variable {σ μ : mm_M} {B : Nat → Nat} {T : Nat}
theorem s_byteAt (h : TXC σ B T) {p : Nat} (hp : p < T) (d : Nat) (P : mm_O) : mm_run shC (d + 1) 14 [.ref 1, .int (nI p)] σ P = P (some (.int (sbI (B p)))) σ := by
  obtain ⟨h1, h2, h3⟩ := h
  have q0 : ¬ nI p < 0 := nI_neg (by omega)
  have q1 : ¬ nI 400 ≤ nI p := nI_ge (by omega) (by decide)
  rw [in_X1_byteAt]
  simp only [qX1_byteAt_0, qX1_byteAt_1, qX1_byteAt_4, qX1_byteAt_5, qX1_byteAt_6, qX1_byteAt_9, qX1_byteAt_10, qX1_byteAt_13, qX1_byteAt_14, qX1_byteAt_17, qX1_byteAt_18, qX1_byteAt_19, qX1_byteAt_22, qX1_byteAt_23, q0, if_false, show Int32.ofNat 400 = nI 400 from rfl, q1, show vp_in (nI p) 400 from vp_in_nI (by omega) (by decide), show (nI p).toNatClampNeg = p from nI_clamp (by omega), (h3 p hp).2, true_and]
theorem s_isBetween (h : TXC σ B T) {p a b : Nat} (hp : p < T) (h4 : σ.1 1 4 = nI p) (ha : a < 128) (hb : b < 128) (d : Nat) (P : mm_O) : mm_run shC (d + 2) 13 [.ref 1, .int (nI a), .int (nI b)] σ P = P (some (.int (if a ≤ B p ∧ B p ≤ b then 1 else 0))) σ := by
  have hB := (h.2.2 p hp).1
  have e1 := sb_lt (b := B p) (c := a) hB ha
  rw [in_X1_isBetween]
  simp only [qX1_isBetween_0, qX1_isBetween_1, qX1_isBetween_2, qX1_isBetween_5, qX1_isBetween_8, qX1_isBetween_9, qX1_isBetween_12, qX1_isBetween_13, qX1_isBetween_14, qX1_isBetween_17, qX1_isBetween_20, qX1_isBetween_21, qX1_isBetween_24, qX1_isBetween_25, qX1_isBetween_28, qX1_isBetween_29, h4, s_byteAt h hp, Option.toList, List.cons_append, List.nil_append]
  by_cases c1 : sbI (B p) < nI a
  · have : ¬ (a ≤ B p ∧ B p ≤ b) := by have := e1.mp c1; omega
    simp only [c1, if_true, this, if_false, true_or, true_and]
  · simp only [c1, if_false, qX1_isBetween_0, qX1_isBetween_1, qX1_isBetween_2, qX1_isBetween_5, qX1_isBetween_8, qX1_isBetween_9, qX1_isBetween_12, qX1_isBetween_13, qX1_isBetween_14, qX1_isBetween_17, qX1_isBetween_20, qX1_isBetween_21, qX1_isBetween_24, qX1_isBetween_25, qX1_isBetween_28, qX1_isBetween_29, h4, s_byteAt h hp, Option.toList, List.cons_append, List.nil_append]
    have c1' : a ≤ B p ∧ B p < 128 := by
      have : ¬ (B p < a ∨ 128 ≤ B p) := fun q => c1 (e1.mpr q)
      omega
    rw [(sb_all _ hB).1 c1'.2]
    by_cases c2 : B p ≤ b
    · have q : ¬ nI b < nI (B p) := nI_nlt c2 (by omega)
      have r : a ≤ B p ∧ B p ≤ b := ⟨c1'.1, c2⟩
      simp only [q, if_false, r, and_self, if_true, or_true, true_and]
    · have q : nI b < nI (B p) := nI_lt (by omega) (by omega)
      have r : ¬ (a ≤ B p ∧ B p ≤ b) := fun h => c2 h.2
      simp only [q, if_false, r, if_true, true_or, true_and]
theorem s_fail {r w : Int32} (d : Nat) (P : mm_O) : mm_run shC (d + 1) 10 [.ref 1, .int r, .int w] σ P = P none (if σ.1 1 5 = 0 then mm_set σ 1 (upd (upd (σ.1 1) 5 r) 3 w) else σ) := by
  rw [in_X1_fail]
  by_cases h : σ.1 1 5 = 0
  · simp only [qX1_fail_0, qX1_fail_1, qX1_fail_4, qX1_fail_7, qX1_fail_8, qX1_fail_9, qX1_fail_12, qX1_fail_13, qX1_fail_14, qX1_fail_17, h, if_true, mm_sti_set, mm_set_1, mm_set_set]
  · simp only [qX1_fail_0, qX1_fail_1, qX1_fail_4, qX1_fail_7, qX1_fail_8, qX1_fail_9, qX1_fail_12, qX1_fail_13, qX1_fail_14, qX1_fail_17, h, if_false]
theorem TXC.pos (h : TXC σ B T) (q : Int32) : TXC (mm_set σ 1 (upd (σ.1 1) 4 q)) B T := ⟨h.1, by rw [mm_set_same]; exact h.2.1, fun k hk => by rw [mm_set_ne _ _ (by decide)]; exact h.2.2 k hk⟩
theorem s_skipBlanks_loop {d : Nat} {P : mm_O} : ∀ (j p : Nat) (σ : mm_M), j + p = T → TXC σ B T → σ.1 1 4 = nI p → mm_at shC (d + 1) 11 [] P 0 [.ref 1] [] σ = P none (mm_set σ 1 (upd (σ.1 1) 4 (nI (enF_ (isB B) T p)))) := by
  intro j
  induction j with
  | zero =>
    intro p σ hp h h4
    have hp : p = T := by omega
    subst hp
    rw [en_end (Nat.le_refl _), ← h4, upd_self, mm_set_self, qX1_skipBlanks_0]
    simp only [qX1_skipBlanks_1, qX1_skipBlanks_4, qX1_skipBlanks_5, qX1_skipBlanks_8, qX1_skipBlanks_11, qX1_skipBlanks_12, qX1_skipBlanks_13, qX1_skipBlanks_16, qX1_skipBlanks_19, qX1_skipBlanks_21, qX1_skipBlanks_24, qX1_skipBlanks_25, qX1_skipBlanks_26, qX1_skipBlanks_29, qX1_skipBlanks_30, qX1_skipBlanks_31, qX1_skipBlanks_34, qX1_skipBlanks_37, h4, h.2.1, show nI p ≤ nI p from Int32.le_refl _, if_true]
  | succ j ih =>
    intro p σ hp h h4
    have hlt : p < T := by omega
    have h400 := h.1
    have q1 : ¬ nI T ≤ nI p := nI_ge hlt (by omega)
    rw [qX1_skipBlanks_0]
    simp only [qX1_skipBlanks_1, qX1_skipBlanks_4, qX1_skipBlanks_5, qX1_skipBlanks_8, qX1_skipBlanks_11, qX1_skipBlanks_12, qX1_skipBlanks_13, qX1_skipBlanks_16, qX1_skipBlanks_19, qX1_skipBlanks_21, qX1_skipBlanks_24, qX1_skipBlanks_25, qX1_skipBlanks_26, qX1_skipBlanks_29, qX1_skipBlanks_30, qX1_skipBlanks_31, qX1_skipBlanks_34, qX1_skipBlanks_37, h4, h.2.1, q1, if_false, s_byteAt h hlt, Option.toList, List.cons_append, List.nil_append]
    have hB := (h.2.2 p hlt).1
    by_cases hb : B p = 32
    · have e : sbI (B p) = 32 := (sb_eq (c := 32) hB (by decide)).mpr hb
      rw [if_pos e, en_go hlt (decide_eq_true hb)]
      simp only [qX1_skipBlanks_1, qX1_skipBlanks_4, qX1_skipBlanks_5, qX1_skipBlanks_8, qX1_skipBlanks_11, qX1_skipBlanks_12, qX1_skipBlanks_13, qX1_skipBlanks_16, qX1_skipBlanks_19, qX1_skipBlanks_21, qX1_skipBlanks_24, qX1_skipBlanks_25, qX1_skipBlanks_26, qX1_skipBlanks_29, qX1_skipBlanks_30, qX1_skipBlanks_31, qX1_skipBlanks_34, qX1_skipBlanks_37, h4, nI_1, mm_sti_set]
      rw [ih (p + 1) _ (by omega) (h.pos _) (by rw [mm_set_same, upd_1, if_pos rfl]), mm_set_set, mm_set_same, upd_upd]
    · have e : ¬ sbI (B p) = 32 := fun q => hb ((sb_eq (c := 32) hB (by decide)).mp q)
      rw [if_neg e, en_no (decide_eq_false hb), ← h4, upd_self, mm_set_self]
theorem s_skipBlanks {d p : Nat} {P : mm_O} (hp : p ≤ T) (h : TXC σ B T) (h4 : σ.1 1 4 = nI p) : mm_run shC (d + 2) 11 [.ref 1] σ P = P none (mm_set σ 1 (upd (σ.1 1) 4 (nI (enF_ (isB B) T p)))) := by
  rw [in_X1_skipBlanks]
  exact s_skipBlanks_loop (T - p) p σ (by omega) h h4
theorem TXM.pos (h : TXM μ B T) (q : Int32) : TXM (mm_set μ 0 (upd (μ.1 0) 15 q)) B T := ⟨h.1, by rw [mm_set_same]; exact h.2.1, fun k hk => by rw [mm_set_ne _ _ (by decide)]; exact h.2.2 k hk⟩
def heI (B : Nat → Nat) (T q : Nat) : Int32 := if q < T then nI (B q) else -1
theorem s_here_loop {d : Nat} {P : mm_O} : ∀ (j p : Nat) (μ : mm_M), j + p = T → TXM μ B T → μ.1 0 15 = nI p → mm_at shM d 88 [] P 0 [.ref 0] [] μ = P (some (.int (heI B T (enF_ (isB B) T p)))) (mm_set μ 0 (upd (μ.1 0) 15 (nI (enF_ (isB B) T p)))) := by
  intro j
  induction j with
  | zero =>
    intro p μ hp h h4
    have hp : p = T := by omega
    subst hp
    rw [en_end (Nat.le_refl _), ← h4, upd_self, mm_set_self, qX7_here_0]
    simp only [qX7_here_1, qX7_here_4, qX7_here_5, qX7_here_8, qX7_here_11, qX7_here_12, qX7_here_15, qX7_here_16, qX7_here_19, qX7_here_20, qX7_here_22, qX7_here_25, qX7_here_26, qX7_here_27, qX7_here_30, qX7_here_31, qX7_here_32, qX7_here_35, qX7_here_38, qX7_here_39, qX7_here_42, qX7_here_43, qX7_here_46, qX7_here_49, qX7_here_50, qX7_here_53, qX7_here_54, qX7_here_57, qX7_here_58, qX7_here_61, qX7_here_62, h4, h.2.1, show nI p ≤ nI p from Int32.le_refl _, if_true, heI, Nat.lt_irrefl, if_false]
  | succ j ih =>
    intro p μ hp h h4
    have hlt : p < T := by omega
    have h400 := h.1
    have q1 : ¬ nI T ≤ nI p := nI_ge hlt (by omega)
    have hB := h.2.2 p hlt
    have v1 : vp_in (nI p) 400 := vp_in_nI (by omega) (by decide)
    have v2 : (nI p).toNatClampNeg = p := nI_clamp (by omega)
    rw [qX7_here_0]
    simp only [qX7_here_1, qX7_here_4, qX7_here_5, qX7_here_8, qX7_here_11, qX7_here_12, qX7_here_15, qX7_here_16, qX7_here_19, qX7_here_20, qX7_here_22, qX7_here_25, qX7_here_26, qX7_here_27, qX7_here_30, qX7_here_31, qX7_here_32, qX7_here_35, qX7_here_38, qX7_here_39, qX7_here_42, qX7_here_43, qX7_here_46, qX7_here_49, qX7_here_50, qX7_here_53, qX7_here_54, qX7_here_57, qX7_here_58, qX7_here_61, qX7_here_62, h4, h.2.1, q1, if_false, v1, v2, true_and, hB.2]
    by_cases hb : B p = 32
    · have e : nI (B p) = 32 := by rw [hb]; rfl
      rw [if_pos e, en_go hlt (decide_eq_true hb)]
      simp only [qX7_here_1, qX7_here_4, qX7_here_5, qX7_here_8, qX7_here_11, qX7_here_12, qX7_here_15, qX7_here_16, qX7_here_19, qX7_here_20, qX7_here_22, qX7_here_25, qX7_here_26, qX7_here_27, qX7_here_30, qX7_here_31, qX7_here_32, qX7_here_35, qX7_here_38, qX7_here_39, qX7_here_42, qX7_here_43, qX7_here_46, qX7_here_49, qX7_here_50, qX7_here_53, qX7_here_54, qX7_here_57, qX7_here_58, qX7_here_61, qX7_here_62, h4, nI_1, mm_sti_set]
      rw [ih (p + 1) _ (by omega) (h.pos _) (by rw [mm_set_same, upd_1, if_pos rfl]), mm_set_set, mm_set_same, upd_upd]
    · have e : ¬ nI (B p) = 32 := fun q => hb ((nI_eq2 (by omega) (by decide)).mp (show nI (B p) = nI 32 from q))
      rw [if_neg e, en_no (decide_eq_false hb), ← h4, upd_self, mm_set_self]
      simp only [qX7_here_1, qX7_here_4, qX7_here_5, qX7_here_8, qX7_here_11, qX7_here_12, qX7_here_15, qX7_here_16, qX7_here_19, qX7_here_20, qX7_here_22, qX7_here_25, qX7_here_26, qX7_here_27, qX7_here_30, qX7_here_31, qX7_here_32, qX7_here_35, qX7_here_38, qX7_here_39, qX7_here_42, qX7_here_43, qX7_here_46, qX7_here_49, qX7_here_50, qX7_here_53, qX7_here_54, qX7_here_57, qX7_here_58, qX7_here_61, qX7_here_62, h4, h.2.1, q1, if_false, v1, v2, true_and, hB.2, heI, hlt, if_true]
theorem s_here {d p : Nat} {P : mm_O} (hp : p ≤ T) (h : TXM μ B T) (h4 : μ.1 0 15 = nI p) : mm_run shM (d + 1) 88 [.ref 0] μ P = P (some (.int (heI B T (enF_ (isB B) T p)))) (mm_set μ 0 (upd (μ.1 0) 15 (nI (enF_ (isB B) T p)))) := by
  rw [in_X7_here]
  exact s_here_loop (T - p) p μ (by omega) h h4
end TX
