/-! THE TEXT: letter and stone clauses of the class -/
section CL3
variable {σ : mm_M} {B : Nat → Nat} {T : Nat}
theorem s_readLetter (h : TXC σ B T) {f e a1 e1 a2 e2 a3 e3 a4 e4 a5 nl : Nat} {mo : Int32} (he : e ≤ T) (hnl : nl ≤ 7) (h7 : σ.1 3 7 - 1 = mo) (h8 : σ.1 3 8 = nI nl) (x1 : enF_ (isB B) T e = a1) (y1 : enF_ (isF B) T a1 = e1) (x2 : enF_ (isB B) T e1 = a2) (y2 : enF_ (isF B) T a2 = e2) (x3 : enF_ (isB B) T e2 = a3) (y3 : enF_ (isF B) T a3 = e3) (x4 : enF_ (isB B) T e3 = a4) (y4 : enF_ (isF B) T a4 = e4) (x5 : enF_ (isB B) T e4 = a5) {r1 r2 r3 r4 r w1 w2 w3 w4 w : Nat} (hr1 : fR (b0N nl) (badN B a1 e1 0 mo) = r1) (hr2 : fR r1 (badN B a2 e2 1 99) = r2) (hr3 : fR r2 (badN B a3 e3 0 999) = r3) (hr4 : fR r3 (badN B a4 e4 0 99) = r4) (hr : fR r4 (endB B T a5) = r) (hw1 : fW (b0N nl) f a1 = w1) (hw2 : fW r1 w1 a2 = w2) (hw3 : fW r2 w2 a3 = w3) (hw4 : fW r3 w3 a4 = w4) (hw : fW r4 w4 a5 = w) (d : Nat) (P : mm_O) : mm_run shC (d + 4) 6 [.ref 1, .int (nI f)] (stC σ e 0 f) P = P none (if r = 0 then adL (stC σ (if endB B T a5 = 0 then a5 + 1 else a5) r w) nl (vlN B a1 (min (e1 - a1) 3)) (vlN B a2 (min (e2 - a2) 3)) (vlN B a3 (min (e3 - a3) 3)) (vlN B a4 (min (e4 - a4) 3)) else stC σ (if endB B T a5 = 0 then a5 + 1 else a5) r w) := by
  have l1 := en_b (c := isB B) he
  rw [x1] at l1
  have l2 := en_b (c := isF B) l1.2.1
  rw [y1] at l2
  have l3 := en_b (c := isB B) l2.2.1
  rw [x2] at l3
  have l4 := en_b (c := isF B) l3.2.1
  rw [y2] at l4
  have l5 := en_b (c := isB B) l4.2.1
  rw [x3] at l5
  have l6 := en_b (c := isF B) l5.2.1
  rw [y3] at l6
  have l7 := en_b (c := isB B) l6.2.1
  rw [x4] at l7
  have l8 := en_b (c := isF B) l7.2.1
  rw [y4] at l8
  have q0 := b0N_le (n := nl)
  have q1 := fR_le q0 (badN_le (B := B) (a := a1) (e := e1) (least := 0) (most := mo))
  rw [hr1] at q1
  have q2 := fR_le q1 (badN_le (B := B) (a := a2) (e := e2) (least := 1) (most := 99))
  rw [hr2] at q2
  have q3 := fR_le q2 (badN_le (B := B) (a := a3) (e := e3) (least := 0) (most := 999))
  rw [hr3] at q3
  have q4 := fR_le q3 (badN_le (B := B) (a := a4) (e := e4) (least := 0) (most := 99))
  rw [hr4] at q4
  have q5 := fR_le q4 (endB_le (B := B) (T := T) (a := a5))
  rw [hr] at q5
  have g1 := fun (d : Nat) (P : mm_O) => s_num h (r := b0N nl) (w := f) he q0 (least := 0) (most := mo) x1 y1 d P
  rw [hr1, hw1] at g1
  have g2 := fun (d : Nat) (P : mm_O) => s_num h (r := r1) (w := w1) l2.2.1 q1 (least := 1) (most := 99) x2 y2 d P
  rw [hr2, hw2] at g2
  have g3 := fun (d : Nat) (P : mm_O) => s_num h (r := r2) (w := w2) l4.2.1 q2 (least := 0) (most := 999) x3 y3 d P
  rw [hr3, hw3] at g3
  have g4 := fun (d : Nat) (P : mm_O) => s_num h (r := r3) (w := w3) l6.2.1 q3 (least := 0) (most := 99) x4 y4 d P
  rw [hr4, hw4] at g4
  have g5 := fun (d : Nat) (P : mm_O) => s_end h (r := r4) (w := w4) l8.2.1 q4 x5 d P
  rw [hr, hw] at g5
  generalize hpe : (if endB B T a5 = 0 then a5 + 1 else a5) = pe at g5
  have t8 : (stC σ e 0 f).1 3 8 = nI nl := by rw [stC_o (by decide)]; exact h8
  have t7 : (stC σ e (b0N nl) f).1 3 7 - 1 = mo := by rw [stC_o (by decide)]; exact h7
  have s5 := stC_5 σ pe r w
  have pre : mm_run shC (d + 4) 6 [.ref 1, .int (nI f)] (stC σ e 0 f) P = mm_at shC (d + 3) 6 [] P 18 [.ref 1, .int (nI f), .null, .null, .null, .null] [] (stC σ e (b0N nl) f) := by
    rw [in_X1_readLetter]
    by_cases hc : 7 ≤ nl
    · have c1 : ¬ nI nl < 7 := show ¬ nI nl < nI 7 from nI_nlt hc (by omega)
      have fl : ∀ (d : Nat) (P : mm_O), mm_run shC (d + 1) 10 [.ref 1, .int 3, .int (nI f)] (stC σ e 0 f) P = P none (stC σ e 3 f) := fun d P => s_fl (r := 0) (r' := 3) (by decide) (by decide) d P
      have eb : b0N nl = 3 := if_pos hc
      rw [eb]
      simp only [qX1_readLetter_0, qX1_readLetter_1, qX1_readLetter_4, qX1_readLetter_7, qX1_readLetter_9, qX1_readLetter_12, qX1_readLetter_13, qX1_readLetter_14, qX1_readLetter_15, qX1_readLetter_19, qX1_readLetter_20, qX1_readLetter_21, qX1_readLetter_24, qX1_readLetter_27, qX1_readLetter_28, qX1_readLetter_29, qX1_readLetter_32, qX1_readLetter_33, qX1_readLetter_34, qX1_readLetter_35, qX1_readLetter_37, qX1_readLetter_40, qX1_readLetter_41, qX1_readLetter_42, qX1_readLetter_43, qX1_readLetter_46, qX1_readLetter_49, qX1_readLetter_51, qX1_readLetter_52, qX1_readLetter_53, qX1_readLetter_55, qX1_readLetter_58, qX1_readLetter_60, qX1_readLetter_61, qX1_readLetter_64, qX1_readLetter_65, qX1_readLetter_68, qX1_readLetter_71, qX1_readLetter_72, qX1_readLetter_75, qX1_readLetter_76, qX1_readLetter_77, qX1_readLetter_79, qX1_readLetter_81, qX1_readLetter_84, t8, c1, if_false, fl, Option.toList, List.nil_append]
    · have c1 : nI nl < 7 := show nI nl < nI 7 from nI_lt (by omega) (by decide)
      have eb : b0N nl = 0 := if_neg hc
      rw [eb]
      simp only [qX1_readLetter_0, qX1_readLetter_1, qX1_readLetter_4, qX1_readLetter_7, qX1_readLetter_9, qX1_readLetter_12, qX1_readLetter_13, qX1_readLetter_14, qX1_readLetter_15, qX1_readLetter_19, qX1_readLetter_20, qX1_readLetter_21, qX1_readLetter_24, qX1_readLetter_27, qX1_readLetter_28, qX1_readLetter_29, qX1_readLetter_32, qX1_readLetter_33, qX1_readLetter_34, qX1_readLetter_35, qX1_readLetter_37, qX1_readLetter_40, qX1_readLetter_41, qX1_readLetter_42, qX1_readLetter_43, qX1_readLetter_46, qX1_readLetter_49, qX1_readLetter_51, qX1_readLetter_52, qX1_readLetter_53, qX1_readLetter_55, qX1_readLetter_58, qX1_readLetter_60, qX1_readLetter_61, qX1_readLetter_64, qX1_readLetter_65, qX1_readLetter_68, qX1_readLetter_71, qX1_readLetter_72, qX1_readLetter_75, qX1_readLetter_76, qX1_readLetter_77, qX1_readLetter_79, qX1_readLetter_81, qX1_readLetter_84, t8, c1, if_true]
  rw [pre]
  by_cases h0 : r = 0
  · have hn7 : nl < 7 := by
      refine Decidable.byContradiction (fun q => ?_)
      have e3 : b0N nl = 3 := if_pos (by omega)
      rw [e3] at hr1
      have u1 : r1 = 3 := hr1.symm.trans rfl
      rw [u1] at hr2
      have u2 : r2 = 3 := hr2.symm.trans rfl
      rw [u2] at hr3
      have u3 : r3 = 3 := hr3.symm.trans rfl
      rw [u3] at hr4
      have u4 : r4 = 3 := hr4.symm.trans rfl
      rw [u4] at hr
      have u5 : r = 3 := hr.symm.trans rfl
      omega
    have t8' : (stC σ pe r w).1 3 8 = nI nl := by rw [stC_o (by decide)]; exact h8
    have hz : nI r = 0 := by rw [h0]; rfl
    have ad := fun (g x y z d : Nat) (P : mm_O) => s_addLetter (g := g) (w := x) (du := y) (wo := z) hn7 t8' d P
    simp only [qX1_readLetter_0, qX1_readLetter_1, qX1_readLetter_4, qX1_readLetter_7, qX1_readLetter_9, qX1_readLetter_12, qX1_readLetter_13, qX1_readLetter_14, qX1_readLetter_15, qX1_readLetter_18, qX1_readLetter_19, qX1_readLetter_20, qX1_readLetter_21, qX1_readLetter_24, qX1_readLetter_27, qX1_readLetter_28, qX1_readLetter_29, qX1_readLetter_32, qX1_readLetter_33, qX1_readLetter_34, qX1_readLetter_35, qX1_readLetter_37, qX1_readLetter_40, qX1_readLetter_41, qX1_readLetter_42, qX1_readLetter_43, qX1_readLetter_46, qX1_readLetter_49, qX1_readLetter_51, qX1_readLetter_52, qX1_readLetter_53, qX1_readLetter_55, qX1_readLetter_58, qX1_readLetter_60, qX1_readLetter_61, qX1_readLetter_64, qX1_readLetter_65, qX1_readLetter_68, qX1_readLetter_71, qX1_readLetter_72, qX1_readLetter_75, qX1_readLetter_76, qX1_readLetter_77, qX1_readLetter_79, qX1_readLetter_81, qX1_readLetter_84, t7, g1, g2, g3, g4, g5, s5, hz, if_true, ad, Option.toList, List.cons_append, List.nil_append]
    rw [if_pos h0]
  · have hz : ¬ nI r = 0 := fun q => h0 ((nI_z q5).mp q)
    simp only [qX1_readLetter_0, qX1_readLetter_1, qX1_readLetter_4, qX1_readLetter_7, qX1_readLetter_9, qX1_readLetter_12, qX1_readLetter_13, qX1_readLetter_14, qX1_readLetter_15, qX1_readLetter_18, qX1_readLetter_19, qX1_readLetter_20, qX1_readLetter_21, qX1_readLetter_24, qX1_readLetter_27, qX1_readLetter_28, qX1_readLetter_29, qX1_readLetter_32, qX1_readLetter_33, qX1_readLetter_34, qX1_readLetter_35, qX1_readLetter_37, qX1_readLetter_40, qX1_readLetter_41, qX1_readLetter_42, qX1_readLetter_43, qX1_readLetter_46, qX1_readLetter_49, qX1_readLetter_51, qX1_readLetter_52, qX1_readLetter_53, qX1_readLetter_55, qX1_readLetter_58, qX1_readLetter_60, qX1_readLetter_61, qX1_readLetter_64, qX1_readLetter_65, qX1_readLetter_68, qX1_readLetter_71, qX1_readLetter_72, qX1_readLetter_75, qX1_readLetter_76, qX1_readLetter_77, qX1_readLetter_79, qX1_readLetter_81, qX1_readLetter_84, t7, g1, g2, g3, g4, g5, s5, hz, if_false, Option.toList, List.cons_append, List.nil_append]
    rw [if_neg h0]
def b0S (ct : Bool) : Nat := if ct then 3 else 0
def adS (τ : mm_M) (c : Nat) : mm_M := mm_set (mm_set τ 3 (upd (τ.1 3) 9 (nI c))) 1 (upd (τ.1 1) 6 1)
theorem s_readStone (h : TXC σ B T) {f e a1 e1 a2 : Nat} {ct : Bool} (he : e ≤ T) (h6 : σ.1 1 6 = bI ct) (x1 : enF_ (isB B) T e = a1) (y1 : enF_ (isF B) T a1 = e1) (x2 : enF_ (isB B) T e1 = a2) {r1 r w1 w : Nat} (hr1 : fR (b0S ct) (badN B a1 e1 0 99) = r1) (hr : fR r1 (endB B T a2) = r) (hw1 : fW (b0S ct) f a1 = w1) (hw : fW r1 w1 a2 = w) (d : Nat) (P : mm_O) : mm_run shC (d + 4) 7 [.ref 1, .int (nI f)] (stC σ e 0 f) P = P none (if r = 0 then adS (stC σ (if endB B T a2 = 0 then a2 + 1 else a2) r w) (vlN B a1 (min (e1 - a1) 3)) else stC σ (if endB B T a2 = 0 then a2 + 1 else a2) r w) := by
  have l1 := en_b (c := isB B) he
  rw [x1] at l1
  have l2 := en_b (c := isF B) l1.2.1
  rw [y1] at l2
  have q0 : b0S ct ≤ 3 := by unfold b0S; split <;> omega
  have q1 := fR_le q0 (badN_le (B := B) (a := a1) (e := e1) (least := 0) (most := 99))
  rw [hr1] at q1
  have q2 := fR_le q1 (endB_le (B := B) (T := T) (a := a2))
  rw [hr] at q2
  have g1 := fun (d : Nat) (P : mm_O) => s_num h (r := b0S ct) (w := f) he q0 (least := 0) (most := 99) x1 y1 d P
  rw [hr1, hw1] at g1
  have g2 := fun (d : Nat) (P : mm_O) => s_end h (r := r1) (w := w1) l2.2.1 q1 x2 d P
  rw [hr, hw] at g2
  generalize hpe : (if endB B T a2 = 0 then a2 + 1 else a2) = pe at g2
  have t6 : (stC σ e 0 f).1 1 6 = bI ct := by rw [stC_q (by decide) (by decide) (by decide)]; exact h6
  have s5 := stC_5 σ pe r w
  have pre : mm_run shC (d + 4) 7 [.ref 1, .int (nI f)] (stC σ e 0 f) P = mm_at shC (d + 3) 7 [] P 13 [.ref 1, .int (nI f), .null] [] (stC σ e (b0S ct) f) := by
    rw [in_X1_readStone]
    cases ct with
    | true =>
      have fl : ∀ (d : Nat) (P : mm_O), mm_run shC (d + 1) 10 [.ref 1, .int 3, .int (nI f)] (stC σ e 0 f) P = P none (stC σ e 3 f) := fun d P => s_fl (r := 0) (r' := 3) (by decide) (by decide) d P
      simp only [qX1_readStone_0, qX1_readStone_1, qX1_readStone_4, qX1_readStone_7, qX1_readStone_8, qX1_readStone_9, qX1_readStone_10, qX1_readStone_14, qX1_readStone_15, qX1_readStone_17, qX1_readStone_20, qX1_readStone_21, qX1_readStone_22, qX1_readStone_25, qX1_readStone_26, qX1_readStone_29, qX1_readStone_32, qX1_readStone_33, qX1_readStone_36, qX1_readStone_37, qX1_readStone_40, qX1_readStone_41, qX1_readStone_42, qX1_readStone_45, t6, bI, if_true, show ¬ (1 : Int32) = 0 by decide, if_false, fl, Option.toList, List.nil_append]
      rfl
    | false =>
      simp only [qX1_readStone_0, qX1_readStone_1, qX1_readStone_4, qX1_readStone_7, qX1_readStone_8, qX1_readStone_9, qX1_readStone_10, qX1_readStone_14, qX1_readStone_15, qX1_readStone_17, qX1_readStone_20, qX1_readStone_21, qX1_readStone_22, qX1_readStone_25, qX1_readStone_26, qX1_readStone_29, qX1_readStone_32, qX1_readStone_33, qX1_readStone_36, qX1_readStone_37, qX1_readStone_40, qX1_readStone_41, qX1_readStone_42, qX1_readStone_45, t6, bI, Bool.false_eq_true, if_true, if_false]
      rfl
  rw [pre]
  by_cases h0 : r = 0
  · have hz : nI r = 0 := by rw [h0]; rfl
    simp only [qX1_readStone_0, qX1_readStone_1, qX1_readStone_4, qX1_readStone_7, qX1_readStone_8, qX1_readStone_9, qX1_readStone_10, qX1_readStone_13, qX1_readStone_14, qX1_readStone_15, qX1_readStone_17, qX1_readStone_20, qX1_readStone_21, qX1_readStone_22, qX1_readStone_25, qX1_readStone_26, qX1_readStone_29, qX1_readStone_32, qX1_readStone_33, qX1_readStone_36, qX1_readStone_37, qX1_readStone_40, qX1_readStone_41, qX1_readStone_42, qX1_readStone_45, g1, g2, s5, hz, if_true, or_true, true_and, mm_sti_set, mm_set_1, Nat.reduceEqDiff, if_false, Option.toList, List.cons_append, List.nil_append]
    rw [if_pos h0]
    rfl
  · have hz : ¬ nI r = 0 := fun q => h0 ((nI_z q2).mp q)
    simp only [qX1_readStone_0, qX1_readStone_1, qX1_readStone_4, qX1_readStone_7, qX1_readStone_8, qX1_readStone_9, qX1_readStone_10, qX1_readStone_13, qX1_readStone_14, qX1_readStone_15, qX1_readStone_17, qX1_readStone_20, qX1_readStone_21, qX1_readStone_22, qX1_readStone_25, qX1_readStone_26, qX1_readStone_29, qX1_readStone_32, qX1_readStone_33, qX1_readStone_36, qX1_readStone_37, qX1_readStone_40, qX1_readStone_41, qX1_readStone_42, qX1_readStone_45, g1, g2, s5, hz, if_false, Option.toList, List.cons_append, List.nil_append]
    rw [if_neg h0]
end CL3
