/-! THE TEXT: the class's clauses -/
def stC (σ : mm_M) (e r w : Nat) : mm_M := mm_set σ 1 (upd (upd (upd (σ.1 1) 4 (nI e)) 5 (nI r)) 3 (if r = 0 then σ.1 1 3 else nI w))
def fR (r bad : Nat) : Nat := if r = 0 then bad else r
def fW (r w a : Nat) : Nat := if r = 0 then a else w
theorem stC_o {σ : mm_M} {e r w k : Nat} (h : k ≠ 1) : (stC σ e r w).1 k = σ.1 k := mm_set_ne _ _ h
theorem stC_4 (σ : mm_M) (e r w : Nat) : (stC σ e r w).1 1 4 = nI e := by unfold stC; rw [mm_set_same]; rfl
theorem stC_5 (σ : mm_M) (e r w : Nat) : (stC σ e r w).1 1 5 = nI r := by unfold stC; rw [mm_set_same]; rfl
theorem stC_q {σ : mm_M} {e r w q : Nat} (h3 : q ≠ 3) (h4 : q ≠ 4) (h5 : q ≠ 5) : (stC σ e r w).1 1 q = σ.1 1 q := by unfold stC; rw [mm_set_same, upd_1, upd_1, upd_1, if_neg h3, if_neg h5, if_neg h4]
section CL
variable {σ : mm_M} {B : Nat → Nat} {T : Nat}
theorem TXC.st (h : TXC σ B T) (e r w : Nat) : TXC (stC σ e r w) B T := ⟨h.1, by rw [stC_q (by decide) (by decide) (by decide)]; exact h.2.1, fun k hk => by rw [stC_o (by decide)]; exact h.2.2 k hk⟩
theorem nI_z {r : Nat} (hr : r ≤ 3) : nI r = 0 ↔ r = 0 := ⟨fun h => (nI_eq2 (by omega) (by decide)).mp (show nI r = nI 0 from h), fun h => by rw [h]; rfl⟩
theorem fail_st {e r w e' bad a : Nat} (hr : r ≤ 3) : failC (posC (stC σ e r w) e') bad a = stC σ e' (fR r bad) (fW r w a) := by
  unfold failC
  rw [posC_5, stC_5]
  unfold posC stC fR fW
  by_cases hb : bad = 0
  · subst hb
    rw [if_pos rfl, mm_set_set, mm_set_same]
    congr 1
    funext q
    simp only [upd_1]
    by_cases h0 : r = 0
    · subst h0
      simp only [if_true]
      by_cases q4 : q = 4
      · subst q4; simp
      · simp [q4]
    · simp only [h0, if_false]
      by_cases q4 : q = 4
      · subst q4; simp
      · simp [q4]
  · rw [if_neg hb]
    by_cases h0 : r = 0
    · subst h0
      rw [if_pos (show nI 0 = 0 from rfl), mm_set_set, mm_set_set, mm_set_same, mm_set_same]
      congr 1
      funext q
      simp only [upd_1, if_true, hb, if_false]
      by_cases q3 : q = 3
      · simp [q3]
      · by_cases q5 : q = 5
        · simp [q5]
        · by_cases q4 : q = 4
          · simp [q4]
          · simp [q3, q4, q5]
    · rw [if_neg (fun q => h0 ((nI_z hr).mp q)), mm_set_set, mm_set_same]
      congr 1
      funext q
      simp only [upd_1, h0, if_false]
      by_cases q4 : q = 4
      · subst q4; simp
      · simp [q4]
theorem pos_st {e r w e' : Nat} : posC (stC σ e r w) e' = stC σ e' r w := by
  unfold posC stC
  rw [mm_set_set, mm_set_same]
  congr 1
  funext q
  simp only [upd_1]
  by_cases q4 : q = 4
  · subst q4; simp
  · simp [q4]
theorem s_num (h : TXC σ B T) {p r w : Nat} (hp : p ≤ T) (hr : r ≤ 3) {least most : Int32} {a e : Nat} (ha : enF_ (isB B) T p = a) (he : enF_ (isF B) T a = e) (d : Nat) (P : mm_O) : mm_run shC (d + 3) 8 [.ref 1, .int least, .int most] (stC σ p r w) P = P (some (.int (nI (vlN B a (min (e - a) 3))))) (stC σ e (fR r (badN B a e least most)) (fW r w a)) := by
  rw [s_readNumber (h.st p r w) hp (stC_4 σ p r w) ha he d P, fail_st hr]
theorem s_fl {e r w r' w' : Nat} (hr : r ≤ 3) (hr' : r' ≠ 0) (d : Nat) (P : mm_O) : mm_run shC (d + 1) 10 [.ref 1, .int (nI r'), .int (nI w')] (stC σ e r w) P = P none (stC σ e (fR r r') (fW r w w')) := by
  have e1 := fail_st (σ := σ) (e := e) (r := r) (w := w) (e' := e) (bad := r') (a := w') hr
  rw [pos_st] at e1
  rw [s_fail, ← e1]
  unfold failC
  rw [if_neg hr']
def endB (B : Nat → Nat) (T a : Nat) : Nat := if a < T ∧ B a = 59 then 0 else 1
theorem s_end (h : TXC σ B T) {p r w a : Nat} (hp : p ≤ T) (hr : r ≤ 3) (ha : enF_ (isB B) T p = a) (d : Nat) (P : mm_O) : mm_run shC (d + 3) 9 [.ref 1] (stC σ p r w) P = P none (stC σ (if endB B T a = 0 then a + 1 else a) (fR r (endB B T a)) (fW r w a)) := by
  have h400 := h.1
  obtain ⟨ha1, ha2, -, -⟩ := en_b (c := isB B) hp
  rw [ha] at ha1 ha2
  have f1 : ∀ (d : Nat) (P : mm_O), mm_run shC (d + 2) 11 [.ref 1] (stC σ p r w) P = P none (stC σ a r w) := fun d P => by
    rw [s_skipBlanks hp (h.st p r w) (stC_4 σ p r w), ha]
    exact congrArg _ (pos_st (σ := σ) (e := p) (r := r) (w := w) (e' := a))
  have hT := (h.st a r w).2.1
  have s4 := stC_4 σ a r w
  rw [in_X1_readEnd]
  by_cases hlt : a < T
  · have q1 : ¬ nI T ≤ nI a := nI_ge hlt (by omega)
    have hB := (h.2.2 a hlt).1
    by_cases hb : B a = 59
    · have e : sbI (B a) = 59 := (sb_eq (c := 59) hB (by decide)).mpr hb
      have hE : endB B T a = 0 := if_pos ⟨hlt, hb⟩
      have hs : mm_sti (stC σ a r w) 1 4 (nI (a + 1)) = stC σ (a + 1) r w := pos_st
      have hf : stC σ (a + 1) (fR r 0) (fW r w a) = stC σ (a + 1) r w := by
        unfold fR fW stC
        by_cases h0 : r = 0 <;> simp [h0]
      rw [hE, if_pos rfl, hf]
      simp only [qX1_readEnd_0, qX1_readEnd_1, qX1_readEnd_4, qX1_readEnd_5, qX1_readEnd_8, qX1_readEnd_9, qX1_readEnd_12, qX1_readEnd_15, qX1_readEnd_16, qX1_readEnd_17, qX1_readEnd_20, qX1_readEnd_23, qX1_readEnd_25, qX1_readEnd_28, qX1_readEnd_29, qX1_readEnd_30, qX1_readEnd_33, qX1_readEnd_34, qX1_readEnd_35, qX1_readEnd_38, qX1_readEnd_41, qX1_readEnd_42, qX1_readEnd_43, qX1_readEnd_44, qX1_readEnd_47, qX1_readEnd_50, f1, hT, s4, q1, if_false, s_byteAt (h.st a r w) hlt, e, if_true, nI_1, hs, Option.toList, List.cons_append, List.nil_append]
    · have e : ¬ sbI (B a) = 59 := fun q => hb ((sb_eq (c := 59) hB (by decide)).mp q)
      have hE : endB B T a = 1 := if_neg (fun q => hb q.2)
      rw [hE, if_neg (by decide)]
      have fl : ∀ (d : Nat) (P : mm_O), mm_run shC (d + 1) 10 [.ref 1, .int 1, .int (nI a)] (stC σ a r w) P = P none (stC σ a (fR r 1) (fW r w a)) := fun d P => s_fl (r' := 1) hr (by decide) d P
      simp only [qX1_readEnd_0, qX1_readEnd_1, qX1_readEnd_4, qX1_readEnd_5, qX1_readEnd_8, qX1_readEnd_9, qX1_readEnd_12, qX1_readEnd_15, qX1_readEnd_16, qX1_readEnd_17, qX1_readEnd_20, qX1_readEnd_23, qX1_readEnd_25, qX1_readEnd_28, qX1_readEnd_29, qX1_readEnd_30, qX1_readEnd_33, qX1_readEnd_34, qX1_readEnd_35, qX1_readEnd_38, qX1_readEnd_41, qX1_readEnd_42, qX1_readEnd_43, qX1_readEnd_44, qX1_readEnd_47, qX1_readEnd_50, f1, hT, s4, q1, if_false, s_byteAt (h.st a r w) hlt, e, fl, Option.toList, List.cons_append, List.nil_append]
  · have q1 : nI T ≤ nI a := nI_le (by omega) (by omega)
    have hE : endB B T a = 1 := if_neg (fun q => hlt q.1)
    rw [hE, if_neg (by decide)]
    have fl : ∀ (d : Nat) (P : mm_O), mm_run shC (d + 1) 10 [.ref 1, .int 1, .int (nI a)] (stC σ a r w) P = P none (stC σ a (fR r 1) (fW r w a)) := fun d P => s_fl (r' := 1) hr (by decide) d P
    simp only [qX1_readEnd_0, qX1_readEnd_1, qX1_readEnd_4, qX1_readEnd_5, qX1_readEnd_8, qX1_readEnd_9, qX1_readEnd_12, qX1_readEnd_15, qX1_readEnd_16, qX1_readEnd_17, qX1_readEnd_20, qX1_readEnd_23, qX1_readEnd_25, qX1_readEnd_28, qX1_readEnd_29, qX1_readEnd_30, qX1_readEnd_33, qX1_readEnd_34, qX1_readEnd_35, qX1_readEnd_38, qX1_readEnd_41, qX1_readEnd_42, qX1_readEnd_43, qX1_readEnd_44, qX1_readEnd_47, qX1_readEnd_50, f1, hT, s4, q1, if_true, fl, Option.toList, List.cons_append, List.nil_append]
theorem badN_le {a e : Nat} {least most : Int32} : badN B a e least most ≤ 3 := by unfold badN; split <;> (try split) <;> omega
theorem endB_le {a : Nat} : endB B T a ≤ 3 := by unfold endB; split <;> omega
theorem fR_le {r b : Nat} (hr : r ≤ 3) (hb : b ≤ 3) : fR r b ≤ 3 := by unfold fR; split <;> assumption
def b0N (n : Nat) : Nat := if 7 ≤ n then 3 else 0
theorem b0N_le {n : Nat} : b0N n ≤ 3 := by unfold b0N; split <;> omega
end CL
