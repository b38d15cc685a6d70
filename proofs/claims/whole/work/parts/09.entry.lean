/-! a method's start -/
theorem mm_entL_len : ∀ (n : Nat) (as : List Value), (as.map Value.category).sum ≤ n → (mm_entL n as).length = n
  | n, [], _ => by unfold mm_entL; simp
  | n, v :: vs, h => by
    simp only [List.map_cons, List.sum_cons] at h
    by_cases hv : ∃ y, v = .long y
    · obtain ⟨y, rfl⟩ := hv
      have hc : Value.category (.long y) = 2 := rfl
      rw [hc] at h
      unfold mm_entL
      simp only [List.length_cons]
      rw [mm_entL_len (n - 2) vs (by omega)]
      omega
    · have hc : 1 ≤ v.category := by cases v <;> simp [Value.category]
      have e : mm_entL n (v :: vs) = v :: mm_entL (n - 1) vs := by
        cases v <;> first | rfl | exact absurd ⟨_, rfl⟩ hv
      rw [e, List.length_cons, mm_entL_len (n - 1) vs (by omega)]
      omega
theorem mm_entL_cat : ∀ (n : Nat) (as : List Value), as.all mm_okV = true → ∀ v ∈ mm_entL n as, v.category = 1
  | n, [], _, v, hv => by
    unfold mm_entL at hv
    rw [List.eq_of_mem_replicate hv]
    rfl
  | n, w :: ws, h, v, hv => by
    simp only [List.all_cons, Bool.and_eq_true] at h
    by_cases hw : ∃ y, w = .long y
    · obtain ⟨y, rfl⟩ := hw
      unfold mm_entL at hv
      rcases List.mem_cons.mp hv with rfl | hv
      · rfl
      rcases List.mem_cons.mp hv with rfl | hv
      · rfl
      exact mm_entL_cat (n - 2) ws h.2 v hv
    · have e : mm_entL n (w :: ws) = w :: mm_entL (n - 1) ws := by
        cases w <;> first | rfl | exact absurd ⟨_, rfl⟩ hw
      rw [e] at hv
      rcases List.mem_cons.mp hv with rfl | hv
      · have h1 := h.1
        cases v <;> first | rfl | exact absurd ⟨_, rfl⟩ hw | cases h1
      · exact mm_entL_cat (n - 1) ws h.2 v hv
theorem mm_args_LL (ad : Nat → Nat) : ∀ (i : Nat) (as : List Value), as.all mm_okV = true → ∀ q ∈ mm_entLL i as, (q.1, Value.long q.2) ∈ lv_args i (as.map (mm_re ad))
  | _, [], _, q, hq => by cases hq
  | i, v :: vs, h, q, hq => by
    simp only [List.all_cons, Bool.and_eq_true] at h
    obtain ⟨h1, h2⟩ := h
    cases v with
    | long y =>
      unfold mm_entLL at hq
      show (q.1, Value.long q.2) ∈ (i, Value.long y) :: lv_args (i + 2) (vs.map (mm_re ad))
      rcases List.mem_cons.mp hq with rfl | hq
      · exact List.mem_cons_self
      · exact List.mem_cons_of_mem _ (mm_args_LL ad (i + 2) vs h2 q hq)
    | int x => exact List.mem_cons_of_mem _ (mm_args_LL ad (i + 1) vs h2 q hq)
    | ref x => exact List.mem_cons_of_mem _ (mm_args_LL ad (i + 1) vs h2 q hq)
    | float x => cases h1
    | double x => cases h1
    | null => cases h1
    | retAddr x => cases h1
theorem mm_args_L (ad : Nat → Nat) : ∀ (n i : Nat) (as : List Value), as.all mm_okV = true → ∀ (k : Nat) (v : Value), (mm_entL n as)[k]? = some v → v ≠ .null → (i + k, mm_re ad v) ∈ lv_args i (as.map (mm_re ad))
  | n, i, [], _, k, v, hk, hv => by
    unfold mm_entL at hk
    exact absurd (List.eq_of_mem_replicate (List.mem_of_getElem? hk)) hv
  | n, i, w :: ws, h, k, v, hk, hv => by
    simp only [List.all_cons, Bool.and_eq_true] at h
    obtain ⟨h1, h2⟩ := h
    have one : ∀ x : Value, mm_entL n (w :: ws) = x :: mm_entL (n - 1) ws → x = w → lv_args i ((w :: ws).map (mm_re ad)) = (i, mm_re ad w) :: lv_args (i + 1) (ws.map (mm_re ad)) → (i + k, mm_re ad v) ∈ lv_args i ((w :: ws).map (mm_re ad)) := by
      intro x e1 e2 e3
      subst e2
      rw [e1] at hk
      rw [e3]
      cases k with
      | zero => cases hk; exact List.mem_cons_self
      | succ k =>
        rw [List.getElem?_cons_succ] at hk
        have e := mm_args_L ad (n - 1) (i + 1) ws h2 k v hk hv
        rw [show i + (k + 1) = i + 1 + k by omega]
        exact List.mem_cons_of_mem _ e
    cases w with
    | long y =>
      unfold mm_entL at hk
      show (i + k, mm_re ad v) ∈ (i, Value.long y) :: lv_args (i + 2) (ws.map (mm_re ad))
      match k, hk with
      | 0, hk => cases hk; exact absurd rfl hv
      | 1, hk => cases hk; exact absurd rfl hv
      | k + 2, hk =>
        rw [List.getElem?_cons_succ, List.getElem?_cons_succ] at hk
        have e := mm_args_L ad (n - 2) (i + 2) ws h2 k v hk hv
        rw [show i + (k + 2) = i + 2 + k by omega]
        exact List.mem_cons_of_mem _ e
    | int x => exact one _ rfl rfl rfl
    | ref x => exact one _ rfl rfl rfl
    | float x => cases h1
    | double x => cases h1
    | null => cases h1
    | retAddr x => cases h1
theorem mm_slots (ad : Nat → Nat) : ∀ as : List Value, as.all mm_okV = true → (lg_sl (as.map (mm_re ad))).length = (as.map Value.category).sum
  | [], _ => rfl
  | v :: vs, h => by
    simp only [List.all_cons, Bool.and_eq_true] at h
    obtain ⟨h1, h2⟩ := h
    have e := mm_slots ad vs h2
    unfold lg_sl at e ⊢
    rw [List.map_cons, List.flatMap_cons, List.length_append, e]
    cases v <;> first | (simp [mm_re, Value.category]; done) | cases h1
set_option maxRecDepth 100000 in
/-- A RUN OF THE SMALL MACHINE IS THE JVM METHOD'S CONTRACT -/
theorem mm_sound {l : Launch} {sh : List mm_H} {ad adV : Nat → Nat} {cA : FieldType → ClassId} {D : va_G} {A : Nat → Prop} (hLen : mm_Len l ad adV A) (hChr : mm_Chr l ad adV A) (d : Nat) : mm_IH l sh ad adV cA D A d := by
  induction d with
  | zero =>
    intro j as σ P h
    unfold mm_run at h
    exact h.elim
  | succ d ih =>
    intro j as σ P h hj
    unfold mm_run at h
    obtain ⟨g, h⟩ := mm_g_e h
    rw [Bool.and_eq_true, Bool.and_eq_true] at g
    obtain ⟨⟨-, hok⟩, hlen⟩ := g
    have hlen := Nat.le_of_ble_eq_true hlen
    have hT := mm_mt_mem hj
    generalize hTe : mm_mt j = T at *
    obtain ⟨p1, p2, p3, p4, p5, p6, p7⟩ := mm_plain hT
    refine Met.ofW (cc := T.2.2.1) (maxL := T.2.2.2.1) (ret := T.2.2.2.2.1) p1 rfl ?_
    intro p e s m args below meth c s₁ B hml hv
    obtain ⟨rfl, hP, hK, hD, hN, hZ⟩ := hv
    have hts := atoms_spec (ws := mm_w T) B.pre
    have hown : s.vm.findClass (mm_R T.1) = some m.cls := by rw [← p2]; exact findClass_of_methodNamed B.named
    have hl := lv_entry (as.map (mm_re ad)) (n := T.2.2.2.1) (by rw [mm_slots ad as hok]; exact hlen)
    rw [lg_entry_eq]
    generalize (lg_sl (as.map (mm_re ad)) ++ List.replicate (T.2.2.2.1 - (lg_sl (as.map (mm_re ad))).length) Slot.unset).toArray = ls at hl ⊢
    have hrel : mm_rel ad (mm_entL T.2.2.2.1 as) (mm_entLL 0 as) ls T.2.2.2.1 := by
      refine ⟨mm_entL_len _ as hlen, ⟨hl.1, hl.2.1, fun q hq => by cases hq⟩, fun q hq => hl.2.2 (q.1, .long q.2) (mm_args_LL ad 0 as hok q hq), mm_entL_cat _ as hok, fun k v hk hv => ?_⟩
      have e := mm_args_L ad T.2.2.2.1 0 as hok k v hk hv
      rw [Nat.zero_add] at e
      exact hl.2.2 (k, mm_re ad v) e
    exact h (mm_X sh ad adV cA D A d T.2.2.2.1 (mm_entLL 0 as) P p l e s m (as.map (mm_re ad)).toArray below meth c) (fun pc L st σ q => mm_close hLen hChr ih ⟨B.exec, B.bytes, B.returns, hml, hown, hts, B.notSynchronized, hK, hN, hZ⟩ (mm_D_any hD) hT pc L st σ q) s.heap [] ls hP va_S.rf hrel
