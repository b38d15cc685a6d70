/-! THE START: the two first memories, the classes, the texts -/
theorem ml_inv : Inv mc_s6 mc_s7 := by
  have z : nI 0 = 0 := nI_0
  refine ⟨0, 0, ⟨⟨z.symm, z.symm, by decide⟩, ⟨z.symm, z.symm, by decide⟩, fun p hp => by omega, fun l hl => by omega, ⟨rfl, 1, by decide, by decide, rfl⟩, ⟨rfl, 0, by decide, by decide, rfl⟩, rfl, by decide⟩, ⟨0, by decide, z.symm, z.symm, fun k hk => by omega⟩, rfl, ⟨0, fun k => k, by decide, z.symm, z.symm, fun k hk => by omega, fun i j hi => by omega⟩, ⟨0, by decide, z.symm, z.symm, fun k hk => by omega⟩, Or.inl ⟨rfl, rfl⟩, Or.inl ⟨rfl, rfl⟩⟩
theorem ml_cls {k : Nat} {q : vw_C} (h : vwCl[k]? = some q) : k < 8 ∧ q = (mm_R k, mm_TT k, mm_NN k) := by
  have hk : k < 8 := (List.getElem?_eq_some_iff.mp h).1
  rw [mm_cl hk] at h
  exact ⟨hk, (Option.some.inj h).symm⟩
theorem ml_arr {s : State} {args : Array Value} {ty : FieldType} (h : (Cond.arrayClass ty).before args s = true) : ∃ cA : ClassId, ArrOfT s cA ty ∧ s.vm.findClass ("[" ++ ty.toString) = some cA := by
  obtain ⟨cA, kA, comp, h1, h2, h3⟩ := Cond.arrayClass_spec (args := args) (first := s) (o := none) (s := s) (idx := []) h
  exact ⟨cA, fun n z => ⟨fun k h => (by cases h), kA, h2, comp, h3⟩, h1⟩
/-- the classes' places and the rows' classes -/
theorem ml_known {s : State} {args : Array Value} (hts : ∀ w ∈ lw_tbl, w.before args s = true) : ∃ (D : va_G) (cA : FieldType → ClassId), va_K D vwCl (mm_tys cA) s := by
  have hw : ∀ w ∈ mm_ws0, w.before args s = true := fun w q => hts w (mm_ws0_in q)
  have h0 : ∀ k : Nat, ∃ q : ClassId × (Nat → Nat), k < 8 → u_Kn s (mm_R k) (mm_TT k) (mm_NN k) q.1 q.2 := by
    intro k
    by_cases hk : k < 8
    · obtain ⟨cC, iS, h⟩ := u_known (C := mm_R k) (T := mm_TT k) (N := mm_NN k) (n := mm_NN k) hw (mm_u_in hk) (hw _ (mc_able hk))
      exact ⟨(cC, iS), fun _ => h⟩
    · exact ⟨(0, fun _ => 0), fun h => absurd h hk⟩
  obtain ⟨f, hf⟩ := Classical.axiomOfChoice h0
  obtain ⟨cI, i1, i2⟩ := ml_arr (hw _ mc_aI.1)
  obtain ⟨cB, b1, b2⟩ := ml_arr (hw _ mc_aB.1)
  obtain ⟨cZ, z1, z2⟩ := ml_arr (hw _ mc_aZ.1)
  refine ⟨(fun k => (f k).1, fun k => (f k).2), fun ty => match ty with
    | .int => cI
    | .byte => cB
    | _ => cZ, fun k q hq => ?_, fun k q hq => ?_⟩
  · obtain ⟨hk, rfl⟩ := ml_cls hq
    exact hf k hk
  · match k, hq with
    | 0, hq => cases hq; exact ⟨i1, i2⟩
    | 1, hq => cases hq; exact ⟨b1, b2⟩
    | 2, hq => cases hq; exact ⟨z1, z2⟩
    | k + 3, hq => simp [mm_tys] at hq
def ml_tm (i : Nat) : Term := .string RX1 ([58, 68, 73].getD i 0)
def ml_val (i : Nat) : Term := .field (ml_tm i) "java/lang/String" "value" "[B"
def ml_flat : List Cond := flatC (Jvm.Cond.and given_1 narrow_1)
set_option maxRecDepth 100000 in
theorem ml_f1 : ∀ i, i < 3 → Cond.exactly (ml_tm i) "java/lang/String" ∈ ml_flat ∧ Cond.eq (.field (ml_tm i) "java/lang/String" "coder" "B") (.int 0) ∈ ml_flat ∧ Cond.arrayOf (ml_val i) .byte ∈ ml_flat ∧ Cond.eq (.length (ml_val i)) (.int (Int32.ofNat ([5, 6, 5].getD i 0))) ∈ ml_flat ∧ ∀ j, j < [5, 6, 5].getD i 0 → Cond.eq (.elem (ml_val i) (.int (Int32.ofNat j))) (.int ((mm_bytes.getD i []).getD j 0)) ∈ ml_flat := by decide +kernel
set_option maxRecDepth 100000 in
theorem ml_f2 : ∀ i, i < 3 → ∀ j, j < 3 → i < j → Cond.not (Cond.eq (ml_tm i) (ml_tm j)) ∈ ml_flat := by decide +kernel
set_option maxRecDepth 100000 in
theorem ml_f3 : Cond.eq (.static "java/lang/String" "COMPACT_STRINGS" "Z") (.int 1) ∈ ml_flat ∧ Cond.isRef (.static "jdk/internal/util/Preconditions" "SIOOBE_FORMATTER" "Ljava/util/function/BiFunction;") ∈ ml_flat := by decide +kernel
def ml_tx (i : Nat) : String := mm_texts.getD i ""
set_option maxRecDepth 100000 in
theorem ml_f4 : ∀ i, i < 3 → Cond.stringRef RX1 ([58, 68, 73].getD i 0) (ml_tx i) ∈ lw_tbl := by
  intro i hi
  match i, hi with
  | 0, _ => exact List.mem_of_getElem? (i := 368) (by decide +kernel)
  | 1, _ => exact List.mem_of_getElem? (i := 444) (by decide +kernel)
  | 2, _ => exact List.mem_of_getElem? (i := 453) (by decide +kernel)
theorem ml_f5 : Cond.laysStatic "java/lang/String" "COMPACT_STRINGS" "Z" ∈ lw_tbl ∧ Cond.laysStatic "jdk/internal/util/Preconditions" "SIOOBE_FORMATTER" "Ljava/util/function/BiFunction;" ∈ lw_tbl ∧ Cond.initialized "java/lang/String" ∈ lw_tbl ∧ Cond.initialized "jdk/internal/util/Preconditions" ∈ lw_tbl :=
  ⟨List.mem_of_getElem? (i := 382) (by decide +kernel), List.mem_of_getElem? (i := 398) (by decide +kernel), List.mem_of_getElem? (i := 64) (by decide +kernel), List.mem_of_getElem? (i := 66) (by decide +kernel)⟩
/-- the texts, and the statics that their methods read; at any addresses of the cells -/
theorem ml_texts {s : State} {args : Array Value} (hts : ∀ w ∈ lw_tbl, w.before args s = true) (hgv : (Jvm.Cond.and given_1 narrow_1).before args s = true) : ∃ adK adV : Nat → Nat, ∀ ad : Nat → Nat, (∀ i, i < 3 → ad (1000 + i) = adK i) → mm_S ad adV (ml_A s) s s.heap := by
  have hf : ∀ w ∈ ml_flat, w.before args s = true := flat_of_before _ hgv
  have hA : ∀ a : Nat, a < s.heap.size → ¬ ml_A s a := fun a h => Nat.not_le.mpr h
  obtain ⟨adK, adV, h1, h2⟩ := vk_Sof (args := args) (s := s) (N := 3) (tm := ml_tm) (len := [5, 6, 5]) (byt := mm_bytes) (A := ml_A s) (fun i _ => by
    match i with
    | 0 => decide
    | 1 => decide
    | 2 => decide
    | i + 3 => exact Nat.le_of_ble_eq_true rfl) (fun i hi => hf _ (ml_f1 i hi).1) (fun i hi => hf _ (ml_f1 i hi).2.1) (fun i hi => hf _ (ml_f1 i hi).2.2.1) (fun i hi => hf _ (ml_f1 i hi).2.2.2.1) (fun i hi j hj => hf _ ((ml_f1 i hi).2.2.2.2 j hj)) (fun i j hi hj hne => by
      rcases Nat.lt_or_gt_of_ne hne with h | h
      · exact Or.inl (hf _ (ml_f2 i hi j hj h))
      · exact Or.inr (hf _ (ml_f2 j hj i hi h))) hA
  refine ⟨adK, adV, fun ad had => ⟨⟨fun i hi => ?_, fun i j hi hj e => ?_⟩, fun q hq => ?_, ?_, ?_⟩⟩
  · show va_O _ (ad (1000 + i)) _ _ _ ∧ va_OF _ _ _ _ (ad (1000 + i)) _ _ _ ∧ va_OF _ _ _ _ (ad (1000 + i)) _ _ _ ∧ _
    rw [had i hi]
    exact h1.1 i hi
  · have e : ad (1000 + i) = ad (1000 + j) := e
    rw [had i hi, had j hj] at e
    exact h1.2 i j hi hj e
  · have key : ∀ i, i < 3 → ∃ tx, vk_R RX1 ([58, 68, 73].getD i 0) tx (ad (1000 + i)) s := fun i hi => ⟨ml_tx i, by
      rw [had i hi]
      refine vk_R.of (A := args) (hts _ (ml_f4 i hi)) ?_
      have e := h2 i hi
      exact e⟩
    have hq2 : q = (1, 58, 1000) ∨ q = (1, 68, 1001) ∨ q = (1, 73, 1002) := by
      simpa [mm_stab] using hq
    rcases hq2 with rfl | rfl | rfl
    · exact key 0 (by decide)
    · exact key 1 (by decide)
    · exact key 2 (by decide)
  · exact va_Zof (hts _ ml_f5.1) (hts _ ml_f5.2.2.1) (va_eqi (hf _ ml_f3.1)) hA
  · exact va_Zqof (hts _ ml_f5.2.1) (hts _ ml_f5.2.2.2) (hf _ ml_f3.2) hA
/-- a world hangs on its cells' addresses alone -/
theorem ml_congr {sh : List mm_H} {ad ad' : Nat → Nat} {cA : FieldType → ClassId} {σ : mm_M} (h : ∀ k, k < 1000 → ad k = ad' k) (hl : sh.length ≤ 1000) (hr : sh.all (fun h => match h with
    | .inl _ => true
    | .inr o => o.2.all (fun f => match f with
      | some (some r) => Nat.blt r 1000
      | _ => true)) = true) : mm_ws sh ad cA σ = mm_ws sh ad' cA σ := by
  apply List.ext_getElem?
  intro k
  simp only [mm_ws, List.getElem?_mapIdx]
  cases hs : sh[k]? with
  | none => rfl
  | some hh =>
    have hk := (List.getElem?_eq_some_iff.mp hs).1
    have hh2 := List.all_eq_true.mp hr hh (List.mem_of_getElem? hs)
    simp only [Option.map_some]
    rw [h k (by omega)]
    congr 2
    cases hh with
    | inl q => rfl
    | inr o =>
      simp only [mm_cell]
      congr 2
      apply List.ext_getElem?
      intro j
      simp only [mm_fs, List.getElem?_mapIdx]
      cases hj : o.2[j]? with
      | none => rfl
      | some f =>
        simp only [Option.map_some]
        congr 1
        have hf2 := List.all_eq_true.mp hh2 f (List.mem_of_getElem? hj)
        match f, hf2 with
        | none, _ => rfl
        | some none, _ => rfl
        | some (some r), hf2 =>
          show Value.ref (ad r) = Value.ref (ad' r)
          rw [h r (Nat.le_of_ble_eq_true hf2)]
def ml_In (w : va_W) : Nat → Prop := fun q => ∃ (k : Nat) (e : va_E), w[k]? = some (q, e)
theorem ml_split {A : Nat → Prop} {w1 w2 : va_W} (h : va_D A (w1 ++ w2)) : va_D (ml_In w1) w1 ∧ va_D (ml_In w2) w2 ∧ (∀ q, ml_In w1 q → A q) ∧ (∀ q, ml_In w2 q → A q) ∧ ∀ q, ml_In w1 q → ¬ ml_In w2 q := by
  have l1 : ∀ (k : Nat) (p : Nat × va_E), w1[k]? = some p → (w1 ++ w2)[k]? = some p := fun k p hp => by
    rw [List.getElem?_append_left (List.getElem?_eq_some_iff.mp hp).1]; exact hp
  have l2 : ∀ (k : Nat) (p : Nat × va_E), w2[k]? = some p → (w1 ++ w2)[w1.length + k]? = some p := fun k p hp => by
    rw [List.getElem?_append_right (by omega), Nat.add_sub_cancel_left]; exact hp
  refine ⟨⟨fun i j p q hp hq e => h.1 i j p q (l1 i p hp) (l1 j q hq) e, fun k q hq => ⟨k, q.2, hq⟩⟩, ⟨fun i j p q hp hq e => by have := h.1 _ _ p q (l2 i p hp) (l2 j q hq) e; omega, fun k q hq => ⟨k, q.2, hq⟩⟩, ?_, ?_, ?_⟩
  · rintro q ⟨k, e, hk⟩
    exact h.2 k (q, e) (l1 k _ hk)
  · rintro q ⟨k, e, hk⟩
    exact h.2 _ (q, e) (l2 k _ hk)
  · rintro q ⟨k, e, hk⟩ ⟨j, e2, hj⟩
    have h1 := h.1 _ _ (q, e) (q, e2) (l1 k _ hk) (l2 j _ hj) rfl
    have h2 := (List.getElem?_eq_some_iff.mp hk).1
    omega
