/-! THE TEXT: the class's three clauses -/
section CL2
variable {σ : mm_M} {B : Nat → Nat} {T : Nat}
def adP (τ : mm_M) (np x y : Nat) : mm_M := mm_set (mm_set (mm_set τ 4 (upd (τ.1 4) np (nI x))) 5 (upd (τ.1 5) np (nI y))) 3 (upd (τ.1 3) 7 (nI (np + 1)))
theorem s_addPlace {τ : mm_M} {np x y : Nat} (hn : np < 7) (h7 : τ.1 3 7 = nI np) (d : Nat) (P : mm_O) : mm_run shC (d + 2) 41 [.ref 3, .int (nI x), .int (nI y)] τ P = P none (adP τ np x y) := by
  have p1 := fun (f : Nat → Int32) (x : Int32) => putF_in f x hn (show 7 < 2 ^ 31 by decide)
  rw [in_X5_addPlace]
  simp only [qX5_addPlace_0, qX5_addPlace_1a, qX5_addPlace_1b, qX5_addPlace_4, qX5_addPlace_5a, qX5_addPlace_5b, qX5_addPlace_8, qX5_addPlace_9, qX5_addPlace_12, qX5_addPlace_13a, qX5_addPlace_13b, qX5_addPlace_16, qX5_addPlace_17a, qX5_addPlace_17b, qX5_addPlace_20, qX5_addPlace_21, qX5_addPlace_24, qX5_addPlace_25, qX5_addPlace_26a, qX5_addPlace_26b, qX5_addPlace_29, qX5_addPlace_30, qX5_addPlace_31a, qX5_addPlace_31b, qX5_addPlace_34, h7, s_put (show shC[4]? = some (.inl (.int, 7)) from rfl) (show 7 < 2 ^ 31 by decide), s_put (show shC[5]? = some (.inl (.int, 7)) from rfl) (show 7 < 2 ^ 31 by decide), p1, mm_set_1, Nat.reduceEqDiff, if_false, nI_1, Option.toList, List.nil_append]
  rfl
def adL (τ : mm_M) (nl g w du wo : Nat) : mm_M := mm_set (mm_set (mm_set (mm_set (mm_set (mm_set τ 6 (upd (τ.1 6) nl (nI g))) 7 (upd (τ.1 7) nl (nI w))) 8 (upd (τ.1 8) nl (nI du))) 9 (upd (τ.1 9) nl (nI wo))) 10 (upd (τ.1 10) nl 0)) 3 (upd (τ.1 3) 8 (nI (nl + 1)))
theorem s_addLetter {τ : mm_M} {nl g w du wo : Nat} (hn : nl < 7) (h8 : τ.1 3 8 = nI nl) (d : Nat) (P : mm_O) : mm_run shC (d + 2) 42 [.ref 3, .int (nI g), .int (nI w), .int (nI du), .int (nI wo)] τ P = P none (adL τ nl g w du wo) := by
  have p1 := fun (f : Nat → Int32) (x : Int32) => putF_in f x hn (show 7 < 2 ^ 31 by decide)
  rw [in_X5_addLetter]
  simp only [qX5_addLetter_0, qX5_addLetter_1a, qX5_addLetter_1b, qX5_addLetter_4, qX5_addLetter_5a, qX5_addLetter_5b, qX5_addLetter_8, qX5_addLetter_9, qX5_addLetter_12, qX5_addLetter_13a, qX5_addLetter_13b, qX5_addLetter_16, qX5_addLetter_17a, qX5_addLetter_17b, qX5_addLetter_20, qX5_addLetter_21, qX5_addLetter_24, qX5_addLetter_25a, qX5_addLetter_25b, qX5_addLetter_28, qX5_addLetter_29a, qX5_addLetter_29b, qX5_addLetter_32, qX5_addLetter_33, qX5_addLetter_36, qX5_addLetter_37a, qX5_addLetter_37b, qX5_addLetter_40, qX5_addLetter_41a, qX5_addLetter_41b, qX5_addLetter_44, qX5_addLetter_46, qX5_addLetter_49, qX5_addLetter_50a, qX5_addLetter_50b, qX5_addLetter_53, qX5_addLetter_54a, qX5_addLetter_54b, qX5_addLetter_57, qX5_addLetter_58, qX5_addLetter_61, qX5_addLetter_62, qX5_addLetter_63a, qX5_addLetter_63b, qX5_addLetter_66, qX5_addLetter_67, qX5_addLetter_68a, qX5_addLetter_68b, qX5_addLetter_71, h8, s_put (show shC[6]? = some (.inl (.int, 7)) from rfl) (show 7 < 2 ^ 31 by decide), s_put (show shC[7]? = some (.inl (.int, 7)) from rfl) (show 7 < 2 ^ 31 by decide), s_put (show shC[8]? = some (.inl (.int, 7)) from rfl) (show 7 < 2 ^ 31 by decide), s_put (show shC[9]? = some (.inl (.int, 7)) from rfl) (show 7 < 2 ^ 31 by decide), s_put (show shC[10]? = some (.inl (.int, 7)) from rfl) (show 7 < 2 ^ 31 by decide), p1, mm_set_1, Nat.reduceEqDiff, if_false, nI_1, Option.toList, List.nil_append]
  rfl
theorem s_readPlace (h : TXC σ B T) {f e a1 e1 a2 e2 a3 np : Nat} (he : e ≤ T) (hnp : np ≤ 7) (h7 : σ.1 3 7 = nI np) (x1 : enF_ (isB B) T e = a1) (y1 : enF_ (isF B) T a1 = e1) (x2 : enF_ (isB B) T e1 = a2) (y2 : enF_ (isF B) T a2 = e2) (x3 : enF_ (isB B) T e2 = a3) {r w : Nat} (hr : fR (fR (fR (b0N np) (badN B a1 e1 0 99)) (badN B a2 e2 0 99)) (endB B T a3) = r) (hw : fW (fR (fR (b0N np) (badN B a1 e1 0 99)) (badN B a2 e2 0 99)) (fW (fR (b0N np) (badN B a1 e1 0 99)) (fW (b0N np) f a1) a2) a3 = w) (d : Nat) (P : mm_O) : mm_run shC (d + 4) 5 [.ref 1, .int (nI f)] (stC σ e 0 f) P = P none (if r = 0 then adP (stC σ (if endB B T a3 = 0 then a3 + 1 else a3) r w) np (vlN B a1 (min (e1 - a1) 3)) (vlN B a2 (min (e2 - a2) 3)) else stC σ (if endB B T a3 = 0 then a3 + 1 else a3) r w) := by
  have l1 := en_b (c := isB B) he
  rw [x1] at l1
  have l2 := en_b (c := isF B) l1.2.1
  rw [y1] at l2
  have l3 := en_b (c := isB B) l2.2.1
  rw [x2] at l3
  have l4 := en_b (c := isF B) l3.2.1
  rw [y2] at l4
  have q0 := b0N_le (n := np)
  have q1 := fR_le q0 (badN_le (B := B) (a := a1) (e := e1) (least := 0) (most := 99))
  have q2 := fR_le q1 (badN_le (B := B) (a := a2) (e := e2) (least := 0) (most := 99))
  have q3 := fR_le q2 (endB_le (B := B) (T := T) (a := a3))
  have g1 := fun (d : Nat) (P : mm_O) => s_num h (r := b0N np) (w := f) he q0 (least := 0) (most := 99) x1 y1 d P
  have g2 := fun (d : Nat) (P : mm_O) => s_num h (r := fR (b0N np) (badN B a1 e1 0 99)) (w := fW (b0N np) f a1) l2.2.1 q1 (least := 0) (most := 99) x2 y2 d P
  have g3 := fun (d : Nat) (P : mm_O) => s_end h (r := fR (fR (b0N np) (badN B a1 e1 0 99)) (badN B a2 e2 0 99)) (w := fW (fR (b0N np) (badN B a1 e1 0 99)) (fW (b0N np) f a1) a2) l4.2.1 q2 x3 d P
  rw [hr, hw] at g3
  rw [hr] at q3
  generalize hpe : (if endB B T a3 = 0 then a3 + 1 else a3) = pe at g3
  have t7 : (stC σ e 0 f).1 3 7 = nI np := by rw [stC_o (by decide)]; exact h7
  have s5 := stC_5 σ pe r w
  have pre : mm_run shC (d + 4) 5 [.ref 1, .int (nI f)] (stC σ e 0 f) P = mm_at shC (d + 3) 5 [] P 18 [.ref 1, .int (nI f), .null, .null] [] (stC σ e (b0N np) f) := by
    rw [in_X1_readPlace]
    by_cases hc : 7 ≤ np
    · have c1 : ¬ nI np < 7 := show ¬ nI np < nI 7 from nI_nlt hc (by omega)
      have fl : ∀ (d : Nat) (P : mm_O), mm_run shC (d + 1) 10 [.ref 1, .int 3, .int (nI f)] (stC σ e 0 f) P = P none (stC σ e 3 f) := fun d P => s_fl (r := 0) (r' := 3) (by decide) (by decide) d P
      have eb : b0N np = 3 := if_pos hc
      rw [eb]
      simp only [qX1_readPlace_0, qX1_readPlace_1, qX1_readPlace_4, qX1_readPlace_7, qX1_readPlace_9, qX1_readPlace_12, qX1_readPlace_13, qX1_readPlace_14, qX1_readPlace_15, qX1_readPlace_19, qX1_readPlace_20, qX1_readPlace_22, qX1_readPlace_25, qX1_readPlace_26, qX1_readPlace_27, qX1_readPlace_28, qX1_readPlace_30, qX1_readPlace_33, qX1_readPlace_34, qX1_readPlace_35, qX1_readPlace_38, qX1_readPlace_39, qX1_readPlace_42, qX1_readPlace_45, qX1_readPlace_46, qX1_readPlace_49, qX1_readPlace_50, qX1_readPlace_51, qX1_readPlace_54, t7, c1, if_false, fl, Option.toList, List.nil_append]
    · have c1 : nI np < 7 := show nI np < nI 7 from nI_lt (by omega) (by decide)
      have eb : b0N np = 0 := if_neg hc
      rw [eb]
      simp only [qX1_readPlace_0, qX1_readPlace_1, qX1_readPlace_4, qX1_readPlace_7, qX1_readPlace_9, qX1_readPlace_12, qX1_readPlace_13, qX1_readPlace_14, qX1_readPlace_15, qX1_readPlace_19, qX1_readPlace_20, qX1_readPlace_22, qX1_readPlace_25, qX1_readPlace_26, qX1_readPlace_27, qX1_readPlace_28, qX1_readPlace_30, qX1_readPlace_33, qX1_readPlace_34, qX1_readPlace_35, qX1_readPlace_38, qX1_readPlace_39, qX1_readPlace_42, qX1_readPlace_45, qX1_readPlace_46, qX1_readPlace_49, qX1_readPlace_50, qX1_readPlace_51, qX1_readPlace_54, t7, c1, if_true]
  rw [pre]
  by_cases h0 : r = 0
  · have hn7 : np < 7 := by
      refine Decidable.byContradiction (fun q => ?_)
      have : b0N np = 3 := if_pos (by omega)
      rw [this] at hr
      have : fR (fR (fR 3 (badN B a1 e1 0 99)) (badN B a2 e2 0 99)) (endB B T a3) = 3 := rfl
      omega
    have t7' : (stC σ pe r w).1 3 7 = nI np := by rw [stC_o (by decide)]; exact h7
    have hz : nI r = 0 := by rw [h0]; rfl
    have ad := fun (x y d : Nat) (P : mm_O) => s_addPlace (x := x) (y := y) hn7 t7' d P
    simp only [qX1_readPlace_0, qX1_readPlace_1, qX1_readPlace_4, qX1_readPlace_7, qX1_readPlace_9, qX1_readPlace_12, qX1_readPlace_13, qX1_readPlace_14, qX1_readPlace_15, qX1_readPlace_18, qX1_readPlace_19, qX1_readPlace_20, qX1_readPlace_22, qX1_readPlace_25, qX1_readPlace_26, qX1_readPlace_27, qX1_readPlace_28, qX1_readPlace_30, qX1_readPlace_33, qX1_readPlace_34, qX1_readPlace_35, qX1_readPlace_38, qX1_readPlace_39, qX1_readPlace_42, qX1_readPlace_45, qX1_readPlace_46, qX1_readPlace_49, qX1_readPlace_50, qX1_readPlace_51, qX1_readPlace_54, g1, g2, g3, s5, hz, if_true, ad, Option.toList, List.cons_append, List.nil_append]
    rw [if_pos h0]
  · have hz : ¬ nI r = 0 := fun q => h0 ((nI_z q3).mp q)
    simp only [qX1_readPlace_0, qX1_readPlace_1, qX1_readPlace_4, qX1_readPlace_7, qX1_readPlace_9, qX1_readPlace_12, qX1_readPlace_13, qX1_readPlace_14, qX1_readPlace_15, qX1_readPlace_18, qX1_readPlace_19, qX1_readPlace_20, qX1_readPlace_22, qX1_readPlace_25, qX1_readPlace_26, qX1_readPlace_27, qX1_readPlace_28, qX1_readPlace_30, qX1_readPlace_33, qX1_readPlace_34, qX1_readPlace_35, qX1_readPlace_38, qX1_readPlace_39, qX1_readPlace_42, qX1_readPlace_45, qX1_readPlace_46, qX1_readPlace_49, qX1_readPlace_50, qX1_readPlace_51, qX1_readPlace_54, g1, g2, g3, s5, hz, if_false, Option.toList, List.cons_append, List.nil_append]
    rw [if_neg h0]
end CL2
