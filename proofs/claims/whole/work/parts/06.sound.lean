/-! THE JVM DOES WHAT THE SMALL MACHINE DOES -/
def mm_re (ad : Nat → Nat) (v : Value) : Value := match v with
  | .ref a => .ref (ad a)
  | v => v
def mm_fs (ad : Nat → Nat) (σ : mm_M) (k : Nat) (fks : List mm_F) : List Value := fks.mapIdx (fun j f => mm_re ad (mm_fv σ k j f))
def mm_cell (ad : Nat → Nat) (cA : FieldType → ClassId) (σ : mm_M) (k : Nat) (h : mm_H) : va_E := match h with
  | .inl q => .inl (cA q.1, q.2, .inl (σ.1 k))
  | .inr o => .inr (o.1, mm_fs ad σ k o.2)
def mm_ws (sh : List mm_H) (ad : Nat → Nat) (cA : FieldType → ClassId) (σ : mm_M) : va_W := sh.mapIdx (fun k h => (ad k, mm_cell ad cA σ k h))
def mm_tys (cA : FieldType → ClassId) : List (ClassId × FieldType) := [(cA .int, .int), (cA .byte, .byte), (cA .boolean, .boolean)]
theorem mm_ws_get {sh : List mm_H} {ad : Nat → Nat} {cA : FieldType → ClassId} {σ : mm_M} {k : Nat} {h : mm_H} (hk : sh[k]? = some h) : (mm_ws sh ad cA σ)[k]? = some (ad k, mm_cell ad cA σ k h) := by
  simp [mm_ws, List.getElem?_mapIdx, hk]
theorem mm_ws_set {sh : List mm_H} {ad : Nat → Nat} {cA : FieldType → ClassId} {σ σ' : mm_M} {a : Nat} {h : mm_H} (hk : sh[a]? = some h) (ho : ∀ k, k ≠ a → σ'.1 k = σ.1 k ∧ σ'.2 k = σ.2 k) : (mm_ws sh ad cA σ).set a (ad a, mm_cell ad cA σ' a h) = mm_ws sh ad cA σ' := by
  apply List.ext_getElem?
  intro k
  by_cases hka : k = a
  · subst hka
    have hlt : k < (mm_ws sh ad cA σ).length := (List.getElem?_eq_some_iff.mp (mm_ws_get hk)).1
    rw [List.getElem?_set_self hlt, mm_ws_get hk]
  · rw [List.getElem?_set_ne (fun q => hka q.symm)]
    simp only [mm_ws, List.getElem?_mapIdx]
    cases hs : sh[k]? with
    | none => rfl
    | some h2 =>
      simp only [Option.map_some]
      congr 2
      obtain ⟨h3, h4⟩ := ho k hka
      cases h2 with
      | inl q => simp only [mm_cell, h3]
      | inr o =>
        have e : (fun j f => mm_re ad (mm_fv σ k j f)) = (fun j f => mm_re ad (mm_fv σ' k j f)) := by
          funext j f
          cases f with
          | none => simp only [mm_fv, h3]
          | some f => cases f <;> simp only [mm_fv, h4]
        simp only [mm_cell, mm_fs, e]
theorem mm_sti_o {σ : mm_M} {a j : Nat} {x : Int32} : ∀ k, k ≠ a → (mm_sti σ a j x).1 k = σ.1 k ∧ (mm_sti σ a j x).2 k = σ.2 k := fun k hk => ⟨by simp [mm_sti, va_up, hk], rfl⟩
theorem mm_stl_o {σ : mm_M} {a j : Nat} {x : Int64} : ∀ k, k ≠ a → (mm_stl σ a j x).1 k = σ.1 k ∧ (mm_stl σ a j x).2 k = σ.2 k := fun k hk => ⟨rfl, by simp [mm_stl, va_up, hk]⟩
theorem mm_setA {sh : List mm_H} {ad : Nat → Nat} {cA : FieldType → ClassId} {σ : mm_M} {a j n : Nat} {ty : FieldType} {x : Int32} (hk : sh[a]? = some (.inl (ty, n))) : (mm_ws sh ad cA σ).set a (ad a, .inl (cA ty, n, .inl (upd (σ.1 a) j x))) = mm_ws sh ad cA (mm_sti σ a j x) := by
  rw [← mm_ws_set hk (mm_sti_o (σ := σ) (a := a) (j := j) (x := x))]
  simp [mm_cell, mm_sti, va_up]
theorem mm_fs_get {ad : Nat → Nat} {σ : mm_M} {a j : Nat} {fks : List mm_F} {f : mm_F} (h : fks[j]? = some f) : (mm_fs ad σ a fks)[j]? = some (mm_re ad (mm_fv σ a j f)) := by
  simp [mm_fs, List.getElem?_mapIdx, h]
theorem mm_fs_set {ad : Nat → Nat} {σ σ' : mm_M} {a j : Nat} {fks : List mm_F} {f : mm_F} {v : Value} (h : fks[j]? = some f) (hv : mm_re ad (mm_fv σ' a j f) = v) (ho : ∀ i, i ≠ j → σ'.1 a i = σ.1 a i ∧ σ'.2 a i = σ.2 a i) : (mm_fs ad σ a fks).set j v = mm_fs ad σ' a fks := by
  apply List.ext_getElem?
  intro k
  by_cases hk : k = j
  · subst hk
    have hlt : k < (mm_fs ad σ a fks).length := (List.getElem?_eq_some_iff.mp (mm_fs_get h)).1
    rw [List.getElem?_set_self hlt, mm_fs_get h, hv]
  · rw [List.getElem?_set_ne (fun q => hk q.symm)]
    simp only [mm_fs, List.getElem?_mapIdx]
    cases hs : fks[k]? with
    | none => rfl
    | some f2 =>
      simp only [Option.map_some]
      obtain ⟨h3, h4⟩ := ho k hk
      cases f2 with
      | none => simp only [mm_fv, h3]
      | some f2 => cases f2 <;> simp only [mm_fv, h4]
theorem mm_setF {sh : List mm_H} {ad : Nat → Nat} {cA : FieldType → ClassId} {σ : mm_M} {a j ci : Nat} {fks : List mm_F} {x : Int32} (hk : sh[a]? = some (.inr (ci, fks))) (hf : fks[j]? = some none) : (mm_ws sh ad cA σ).set a (ad a, .inr (ci, (mm_fs ad σ a fks).set j (.int x))) = mm_ws sh ad cA (mm_sti σ a j x) := by
  rw [← mm_ws_set hk (mm_sti_o (σ := σ) (a := a) (j := j) (x := x))]
  rw [mm_fs_set (ad := ad) (σ := σ) (a := a) (v := .int x) (σ' := mm_sti σ a j x) hf (by simp [mm_re, mm_fv, mm_sti, va_up, upd]) (fun i hi => ⟨by simp [mm_sti, va_up, upd, hi], rfl⟩)]
  rfl
theorem mm_setL {sh : List mm_H} {ad : Nat → Nat} {cA : FieldType → ClassId} {σ : mm_M} {a j ci : Nat} {fks : List mm_F} {x : Int64} (hk : sh[a]? = some (.inr (ci, fks))) (hf : fks[j]? = some (some none)) : (mm_ws sh ad cA σ).set a (ad a, .inr (ci, (mm_fs ad σ a fks).set j (.long x))) = mm_ws sh ad cA (mm_stl σ a j x) := by
  rw [← mm_ws_set hk (mm_stl_o (σ := σ) (a := a) (j := j) (x := x))]
  rw [mm_fs_set (ad := ad) (σ := σ) (a := a) (v := .long x) (σ' := mm_stl σ a j x) hf (by simp [mm_re, mm_fv, mm_stl, va_up]) (fun i hi => ⟨rfl, by simp [mm_stl, va_up, hi]⟩)]
  rfl
/-! the locals -/
def mm_rel (ad : Nat → Nat) (L : List Value) (LL : List (Nat × Int64)) (ls : Array Slot) (n : Nat) : Prop := L.length = n ∧ lv_has ls n [] ∧ (∀ q ∈ LL, ls[q.1]? = some (.val (.long q.2))) ∧ (∀ v ∈ L, v.category = 1) ∧ ∀ (i : Nat) (v : Value), L[i]? = some v → v ≠ .null → ls[i]? = some (.val (mm_re ad v))
def mm_all (ls : Array Slot) : List (Nat × Value) := (List.range ls.size).filterMap (fun i => match (ls[i]? : Option Slot) with
  | some (Slot.val v) => some (i, v)
  | _ => none)
theorem mm_all_mem {ls : Array Slot} {i : Nat} {v : Value} : (i, v) ∈ mm_all ls ↔ ls[i]? = some (.val v) := by
  unfold mm_all
  rw [List.mem_filterMap]
  constructor
  · rintro ⟨k, -, hk⟩
    split at hk
    · rename_i w hw
      cases hk
      exact hw
    · cases hk
  · intro h
    refine ⟨i, ?_, by rw [h]⟩
    rw [List.mem_range]
    exact (Array.getElem?_eq_some_iff.mp h).1
theorem mm_has_all {ls : Array Slot} {n : Nat} (h : lv_has ls n []) : lv_has ls n (mm_all ls) := ⟨h.1, h.2.1, fun q hq => mm_all_mem.mp (show (q.1, q.2) ∈ mm_all ls from hq)⟩
theorem mm_rel_set {ad : Nat → Nat} {L : List Value} {LL : List (Nat × Int64)} {ls ls' : Array Slot} {n i : Nat} {x : Int32} (h : mm_rel ad L LL ls n) (hok : mm_okL L LL i = true) (h' : lv_has ls' n ((i, Value.int x) :: (mm_all ls).filter (fun q => !(q.1 == i) && !(q.1 + 1 == i && q.2.category == 2)))) : mm_rel ad (L.set i (.int x)) LL ls' n := by
  obtain ⟨h1, h2, h3, h4, h5⟩ := h
  unfold mm_okL at hok
  rw [Bool.and_eq_true, List.all_eq_true] at hok
  refine ⟨by rw [List.length_set]; exact h1, ⟨h'.1, h'.2.1, fun q hq => by cases hq⟩, fun q hq => ?_, fun v hv => ?_, fun k v hk hv => ?_⟩
  · have ho := hok.2 q hq
    rw [Bool.and_eq_true] at ho
    refine h'.2.2 (q.1, .long q.2) (List.mem_cons_of_mem _ (List.mem_filter.mpr ⟨mm_all_mem.mpr (h3 q hq), ?_⟩))
    simp only [Bool.and_eq_true, Bool.not_eq_true', Bool.and_eq_false_iff] at ho ⊢
    exact ⟨ho.1, Or.inl ho.2⟩
  · rcases List.mem_or_eq_of_mem_set hv with hv | rfl
    · exact h4 v hv
    · rfl
  · by_cases hki : k = i
    · subst hki
      have hlt : k < L.length := by
        have e := (List.getElem?_eq_some_iff.mp hk).1
        rwa [List.length_set] at e
      rw [List.getElem?_set_self hlt] at hk
      cases hk
      exact h'.2.2 (k, .int x) List.mem_cons_self
    · rw [List.getElem?_set_ne (fun q => hki q.symm)] at hk
      have hc : (mm_re ad v).category = 1 := by
        have e := h4 v (List.mem_of_getElem? hk)
        cases v <;> first | rfl | exact e
      refine h'.2.2 (k, mm_re ad v) (List.mem_cons_of_mem _ (List.mem_filter.mpr ⟨mm_all_mem.mpr (h5 k v hk hv), ?_⟩))
      simp [hki, hc]
/-! the world, the nest's links, the texts -/
def mm_N (U : State) : Prop := ∀ q ∈ mm_ntab, va_Nw (.methodLinkNest (mm_R q.1) q.2.1 (mm_mt q.2.2).2.1 RX6) U
def mm_S (ad adV : Nat → Nat) (A : Nat → Prop) (U : State) (H : Heap) : Prop := vk_S 3 [5, 6, 5] mm_bytes (fun i => ad (1000 + i)) adV A U H ∧ (∀ q ∈ mm_stab, ∃ tx, vk_R (mm_R q.1) q.2.1 tx (ad q.2.2) U) ∧ va_Z "java/lang/String" "COMPACT_STRINGS" "Z" (.int 1) A U H ∧ va_Zq "jdk/internal/util/Preconditions" "SIOOBE_FORMATTER" "Ljava/util/function/BiFunction;" A U H
theorem mm_N.warm {s U : State} (hW : s.WarmedH U.vm) (h : mm_N s) : mm_N U := fun q hq => va_Nw.warmM hW (h q hq)
theorem mm_N.same {s U : State} (hv : s.vm = U.vm) (h : mm_N s) : mm_N U := fun q hq => va_Nw.same rfl hv (h q hq)
theorem mm_S.warm {ad adV : Nat → Nat} {A : Nat → Prop} {s U : State} {H : Heap} (hW : s.WarmedH U.vm) (h : mm_S ad adV A s H) : mm_S ad adV A U H :=
  ⟨h.1.moved hW.alike, fun q hq => by obtain ⟨tx, ht⟩ := h.2.1 q hq; exact ⟨tx, ht.warm hW⟩, va_Z.moved hW.alike h.2.2.1, va_Zq.moved hW.alike h.2.2.2⟩
theorem mm_S.same {ad adV : Nat → Nat} {A : Nat → Prop} {s U : State} {H : Heap} (hv : U.vm = s.vm) (h : mm_S ad adV A s H) : mm_S ad adV A U H :=
  ⟨h.1.moved (by rw [hv]; exact Vm.Alike.refl _), fun q hq => by obtain ⟨tx, ht⟩ := h.2.1 q hq; exact ⟨tx, ht.same hv⟩, va_Z.moved (by rw [hv]; exact Vm.Alike.refl _) h.2.2.1, va_Zq.moved (by rw [hv]; exact Vm.Alike.refl _) h.2.2.2⟩
theorem mm_S.kept {ad adV : Nat → Nat} {A : Nat → Prop} {s : State} {H H1 : Heap} (h : mm_S ad adV A s H) (hq : ∀ a : Nat, a < H.size → ¬ A a → H1[a]? = H[a]?) : mm_S ad adV A s H1 :=
  ⟨h.1.kept hq, h.2.1, h.2.2.1.kept hq, h.2.2.2.kept hq⟩
/-- the world of a system: its cells as the memory has them, at the addresses ad -/
def mm_B (sh : List mm_H) (ad adV : Nat → Nat) (cA : FieldType → ClassId) (D : va_G) (A : Nat → Prop) (σ : mm_M) (U : State) : Prop :=
  va_P D vwCl (mm_ws sh ad cA σ) U.heap ∧ va_K D vwCl (mm_tys cA) U ∧ va_D A (mm_ws sh ad cA σ) ∧ mm_N U ∧ mm_S ad adV A U U.heap
def mm_Q (ad : Nat → Nat) (B : mm_M → State → Prop) (A : Nat → Prop) (P : mm_O) : Array Value → State → Outcome → State → Prop := fun _ st oc t => (∃ (v : Option Value) (σ : mm_M), oc = .returned (v.map (mm_re ad)) ∧ P v σ ∧ B σ t) ∧ va_F A st t
def mm_w (T : mm_T) : List Cond := .code T.2.1 T.2.2.1 T.2.2.2.1 T.2.2.2.2.1 :: mm_ws0
def mm_rm (d : Nat) : Room := { frames := d + 8, cells := 0, slots := 0, locals := 64 * (d + 8) }
def mm_rmJ : Room := { frames := 4, cells := 0, slots := 0, locals := 200 }
theorem mm_D_any {sh : List mm_H} {ad : Nat → Nat} {cA : FieldType → ClassId} {A : Nat → Prop} {σ : mm_M} (h : va_D A (mm_ws sh ad cA σ)) (σ' : mm_M) : va_D A (mm_ws sh ad cA σ') := by
  have key : ∀ (k : Nat) (q : Nat × va_E), (mm_ws sh ad cA σ')[k]? = some q → ∃ q2, (mm_ws sh ad cA σ)[k]? = some q2 ∧ q2.1 = q.1 := by
    intro k q hq
    simp only [mm_ws, List.getElem?_mapIdx] at hq ⊢
    cases hs : sh[k]? with
    | none => rw [hs] at hq; cases hq
    | some h2 =>
      rw [hs] at hq
      cases hq
      exact ⟨_, rfl, rfl⟩
  refine ⟨fun i j p q hp hq he => ?_, fun k q hq => ?_⟩
  · obtain ⟨p2, h1, e1⟩ := key i p hp
    obtain ⟨q2, h2, e2⟩ := key j q hq
    exact h.1 i j p2 q2 h1 h2 (by rw [e1, e2, he])
  · obtain ⟨q2, h2, e2⟩ := key k q hq
    rw [← e2]
    exact h.2 k q2 h2
/-! words -/
theorem mm_w_good {c c' : Cond} (h : c' ∈ mm_ws0) : GoodIn (c :: mm_ws0) (c' :: mm_ws0) := by
  intro w hw
  rcases List.mem_cons.mp hw with rfl | hw
  · exact ⟨List.mem_cons_of_mem _ h, good_of_word (mm_ws0_good h)⟩
  · exact ⟨List.mem_cons_of_mem _ hw, good_of_word (mm_ws0_good hw)⟩
theorem mm_mt_mem {j : Nat} (h : j < mm_mtab.length) : mm_mt j ∈ mm_mtab := by
  unfold mm_mt
  rw [List.getD_eq_getElem?_getD, List.getElem?_eq_getElem h]
  exact List.getElem_mem h
theorem mm_code_in {T : mm_T} (h : T ∈ mm_mtab) : Cond.code T.2.1 T.2.2.1 T.2.2.2.1 T.2.2.2.2.1 ∈ mm_ws0 := mm_m_code _ (List.mem_map.mpr ⟨T, h, rfl⟩)
theorem mm_plain {T : mm_T} (h : T ∈ mm_mtab) : plainName T.2.1.cls = true ∧ T.2.1.cls = mm_R T.1 ∧ Cond.initialized T.2.1.cls ∈ mm_ws0 ∧ T.2.1.cls ≠ "java/lang/invoke/MethodHandle" ∧ T.2.1.cls ≠ "java/lang/invoke/VarHandle" ∧ (parseMethodDescriptor T.2.1.desc).map (fun d => d.parameters.length) = some T.2.2.2.2.2.2 ∧ T.2.2.2.1 ≤ 40 := by
  have e := List.all_eq_true.mp mm_m_plain T h
  simp only [Bool.and_eq_true, beq_iff_eq, bne_iff_ne, ne_eq] at e
  obtain ⟨⟨⟨⟨⟨⟨e1, e2⟩, e3⟩, e4⟩, e5⟩, e6⟩, e7⟩ := e
  exact ⟨e1, e2, mm_c_ini _ (List.mem_map.mpr ⟨T.2.1.cls, List.elem_iff.mp e3, rfl⟩), e4, e5, e6, Nat.le_of_ble_eq_true e7⟩
theorem mm_inst_in {T : mm_T} (h : T ∈ mm_mtab) (hs : T.2.2.2.2.2.1 = false) : Cond.instanceMethod T.2.1 ∈ mm_ws0 ∧ Cond.selects T.2.1.cls T.2.1 T.2.1 ∈ mm_ws0 :=
  ⟨mm_m_inst _ (List.mem_map.mpr ⟨T, List.mem_filter.mpr ⟨h, by simp [hs]⟩, rfl⟩), mm_m_sel _ (List.mem_map.mpr ⟨T, List.mem_filter.mpr ⟨h, by simp [hs]⟩, rfl⟩)⟩
theorem mm_stat_in {T : mm_T} (h : T ∈ mm_mtab) (hs : T.2.2.2.2.2.1 = true) : Cond.static T.2.1 ∈ mm_ws0 := mm_m_stat _ (List.mem_map.mpr ⟨T, List.mem_filter.mpr ⟨h, hs⟩, rfl⟩)
theorem mm_cl {ci : Nat} (h : ci < 8) : vwCl[ci]? = some (mm_R ci, mm_TT ci, mm_NN ci) := by
  match ci, h with
  | 0, _ => rfl
  | 1, _ => rfl
  | 2, _ => rfl
  | 3, _ => rfl
  | 4, _ => rfl
  | 5, _ => rfl
  | 6, _ => rfl
  | 7, _ => rfl
set_option maxRecDepth 100000 in
theorem mm_u_good : ∀ ci, ci < 8 → (u_ws (mm_R ci) (mm_TT ci) (mm_NN ci)).all goodWord = true := by decide +kernel
theorem mm_u_in {ci : Nat} (h : ci < 8) : ∀ w ∈ u_ws (mm_R ci) (mm_TT ci) (mm_NN ci), w ∈ mm_ws0 := by
  intro w hw
  refine mm_ws0_of ?_ (List.all_eq_true.mp (mm_u_good ci h) w hw)
  match ci, h with
  | 0, _ => exact inX0 w hw
  | 1, _ => exact inX1 w hw
  | 2, _ => exact inX2 w hw
  | 3, _ => exact inX3 w hw
  | 4, _ => exact inX4 w hw
  | 5, _ => exact inX5 w hw
  | 6, _ => exact inX6 w hw
  | 7, _ => exact inX7 w hw
theorem mm_tyok {ci : Nat} (h : ci < 8) : ∀ k, k < mm_NN ci → parseFieldDescriptor (mm_TT ci k).2.2.1 = some (mm_ty ci k) := by
  match ci, h with
  | 0, _ => exact tyX0_ok
  | 1, _ => exact tyX1_ok
  | 2, _ => exact tyX2_ok
  | 3, _ => exact tyX3_ok
  | 4, _ => exact tyX4_ok
  | 5, _ => exact tyX5_ok
  | 6, _ => exact tyX6_ok
  | 7, _ => exact tyX7_ok
theorem mm_nm {ci : Nat} (h : ci < 8) : ∀ a, a < mm_NN ci → ∀ b, b < mm_NN ci → a ≠ b → (mm_TT ci a).2.1 ≠ (mm_TT ci b).2.1 := by
  match ci, h with
  | 0, _ => exact nmX0
  | 1, _ => exact nmX1
  | 2, _ => exact nmX2
  | 3, _ => exact nmX3
  | 4, _ => exact nmX4
  | 5, _ => exact nmX5
  | 6, _ => exact nmX6
  | 7, _ => exact nmX7
theorem mm_fin : ∀ ci, ci < 8 → ∀ j, j < mm_NN ci → (mm_ty ci j = .int ∨ mm_ty ci j = .boolean ∨ mm_ty ci j = .long) → (mm_TT ci j).2.2.2 = false := by decide +kernel
theorem mm_f_facts {own idx ci j : Nat} (h : mm_find own idx mm_ftab = some (ci, j)) : ci < 8 ∧ j < mm_NN ci ∧ Cond.fieldLink (mm_R own) idx (mm_TT ci j).1 (mm_TT ci j).2.1 (mm_TT ci j).2.2.1 ∈ mm_ws0 := by
  have hm := mm_find_mem h
  have e := List.all_eq_true.mp mm_f_bound _ hm
  simp only [Bool.and_eq_true] at e
  exact ⟨Nat.le_of_ble_eq_true e.1.2, Nat.le_of_ble_eq_true e.2, mm_f_link _ (List.mem_map.mpr ⟨_, hm, rfl⟩)⟩
/-! what stands behind each test of the small machine -/
theorem mm_g1 {n k : Nat} {A : Prop} (h : mm_g (n == k) A) : n = k ∧ A := by
  obtain ⟨a, b⟩ := mm_g_e h
  exact ⟨eq_of_beq a, b⟩
theorem mm_pI_e {st : List Value} {k : Int32 → List Value → Prop} (h : mm_pI st k) : ∃ x r, st = .int x :: r ∧ k x r := by
  unfold mm_pI at h; split at h <;> first | exact ⟨_, _, rfl, h⟩ | exact h.elim
theorem mm_pR_e {st : List Value} {k : Nat → List Value → Prop} (h : mm_pR st k) : ∃ x r, st = .ref x :: r ∧ k x r := by
  unfold mm_pR at h; split at h <;> first | exact ⟨_, _, rfl, h⟩ | exact h.elim
theorem mm_pL_e {st : List Value} {k : Int64 → List Value → Prop} (h : mm_pL st k) : ∃ x r, st = .long x :: r ∧ k x r := by
  unfold mm_pL at h; split at h <;> first | exact ⟨_, _, rfl, h⟩ | exact h.elim
theorem mm_pE_e {st : List Value} {A : Prop} (h : mm_pE st A) : st = [] ∧ A := by
  unfold mm_pE at h; split at h <;> first | exact ⟨rfl, h⟩ | exact h.elim
theorem mm_lI_e {L : List Value} {i : Nat} {k : Int32 → Prop} (h : mm_lI L i k) : ∃ x, L[i]? = some (.int x) ∧ k x := by
  unfold mm_lI at h; split at h <;> first | exact ⟨_, by assumption, h⟩ | exact h.elim
theorem mm_lR_e {L : List Value} {i : Nat} {k : Nat → Prop} (h : mm_lR L i k) : ∃ x, L[i]? = some (.ref x) ∧ k x := by
  unfold mm_lR at h; split at h <;> first | exact ⟨_, by assumption, h⟩ | exact h.elim
theorem mm_lL_e {LL : List (Nat × Int64)} {i : Nat} {k : Int64 → Prop} (h : mm_lL LL i k) : ∃ x, (i, x) ∈ LL ∧ k x := by
  induction LL with
  | nil => exact h.elim
  | cons q r ih =>
    unfold mm_lL at h
    split at h
    · rename_i hq
      rw [← eq_of_beq hq]
      exact ⟨q.2, List.mem_cons_self, h⟩
    · obtain ⟨x, a, b⟩ := ih h
      exact ⟨x, List.mem_cons_of_mem _ a, b⟩
theorem mm_j_e {pc : Nat} {off : Int} {k : Nat → Prop} (h : mm_j pc off k) : ∃ t : Nat, (pc : Int) + off = (t : Int) ∧ k t := by
  unfold mm_j at h; split at h <;> first | exact ⟨_, by assumption, h⟩ | exact h.elim
theorem mm_som_e {α : Type} {o : Option α} {k : α → Prop} (h : mm_som o k) : ∃ a, o = some a ∧ k a := by
  unfold mm_som at h; split at h <;> first | exact ⟨_, rfl, h⟩ | exact h.elim
theorem mm_if {c : Prop} {A B : Prop} (hd : Decidable c) (h : if c then A else B) : (c → A) ∧ (¬ c → B) := ⟨fun q => by rwa [if_pos q] at h, fun q => by rwa [if_neg q] at h⟩
theorem mm_arr_e {sh : List mm_H} {a : Nat} {k : FieldType → Nat → Prop} (h : mm_arr sh a k) : ∃ ty n, sh[a]? = some (.inl (ty, n)) ∧ k ty n := by
  obtain ⟨q, h1, h2⟩ := mm_som_e h
  cases q with
  | inl q => exact ⟨q.1, q.2, h1, h2⟩
  | inr o => exact h2.elim
theorem mm_fld_e {sh : List mm_H} {own idx a : Nat} {k : Nat → Nat → mm_F → Prop} (h : mm_fld sh own idx a k) : ∃ ci j fks f, mm_find own idx mm_ftab = some (ci, j) ∧ sh[a]? = some (.inr (ci, fks)) ∧ fks[j]? = some f ∧ k ci j f := by
  obtain ⟨q, h1, h⟩ := mm_som_e h
  obtain ⟨o, h2, h⟩ := mm_som_e h
  cases o with
  | inl _ => exact h.elim
  | inr o =>
    obtain ⟨ci, fks⟩ := o
    obtain ⟨g, h⟩ := mm_g1 h
    dsimp only at g
    subst g
    obtain ⟨f, h3, h⟩ := mm_som_e h
    exact ⟨q.1, q.2, fks, f, h1, h2, h3, h⟩
theorem mm_pops_e : ∀ {n : Nat} {st : List Value} {q : List Value × List Value}, mm_pops n st = some q → st = q.1.reverse ++ q.2 ∧ q.1.length = n
  | 0, st, q, h => by
    unfold mm_pops at h
    cases h
    exact ⟨rfl, rfl⟩
  | n + 1, [], q, h => by
    unfold mm_pops at h
    cases h
  | n + 1, v :: st, q, h => by
    unfold mm_pops at h
    split at h
    · rename_i q2 h2
      obtain ⟨e1, e2⟩ := mm_pops_e h2
      cases h
      refine ⟨?_, by simp [e2]⟩
      rw [e1]
      simp
    · cases h
theorem mm_str_e {a : Nat} {b : List Int32} (h : mm_str a = some b) : ∃ i, i < 3 ∧ a = 1000 + i ∧ mm_bytes[i]? = some b := by
  unfold mm_str at h
  split at h
  · rename_i hb
    have h1 := Nat.le_of_ble_eq_true hb
    refine ⟨a - 1000, (List.getElem?_eq_some_iff.mp h).1, by omega, h⟩
  · cases h
