/-! EVERY STEP, instruction by instruction; then a run at any depth is a contract -/
section MD
variable {p : Program} {l : Launch} {e : Env} {s : State} {m : MethodId} {args : Array Value} {below : List Frame} {meth : Method} {c : Code} {sh : List mm_H} {ad adV : Nat → Nat} {cA : FieldType → ClassId} {D : va_G} {A : Nat → Prop} {P : mm_O} {d n : Nat} {T : mm_T} {LL : List (Nat × Int64)}
theorem mm_jif_e {c : ClassFile.Cond} {x y : Int32} {A B : Prop} (h : mm_jif c x y A B) : match c with
  | .eq => (x = y → A) ∧ (¬ x = y → B)
  | .ne => (¬ x = y → A) ∧ (x = y → B)
  | .lt => (x < y → A) ∧ (¬ x < y → B)
  | .ge => (y ≤ x → A) ∧ (¬ y ≤ x → B)
  | .gt => (y < x → A) ∧ (¬ y < x → B)
  | .le => (x ≤ y → A) ∧ (¬ x ≤ y → B) := by
  cases c <;> unfold mm_jif at h <;> dsimp only at h ⊢ <;> first | exact mm_if _ h | exact ⟨(mm_if _ h).2, (mm_if _ h).1⟩
theorem mm_x_facts {own idx x : Nat} (h : mm_find own idx mm_xtab = some x) : Cond.methodLink (mm_R own) idx (mm_xy x) ∈ mm_ws0 := mm_x_link _ (List.mem_map.mpr ⟨_, mm_find_mem h, rfl⟩)
theorem mm_strlen_c {idx pc : Nat} {L st : List Value} {σ : mm_M} {H : Heap} {locs : List Loc} {ls : Array Slot} (hLen : mm_Len l ad adV A) (F : mm_Fix ad adV cA D A T n p s m args meth c) (hS : va_S A s.heap H locs) (hl : mm_rel ad L LL ls n) (hP : va_P D vwCl (mm_ws sh ad cA σ) H)
    (hx3 : mm_find T.1 idx mm_xtab = some 3) (hd : decode T.2.2.1 pc = .ok (.invokevirtual idx, 3)) (h : mm_pR st fun a r => mm_som (mm_str a) fun b => mm_g (mm_r8 r) (mm_X sh ad adV cA D A d n LL P p l e s m args below meth c (pc + 3) L (.int (nI b.length) :: r) σ)) : W p l e (mm_rm (d + 1)) s m args below meth c H locs 0 0 (MQ below (mm_Q ad (mm_B sh ad adV cA D A) A P) args s 0 0 A) (F0 m pc ls (st.map (mm_re ad))) := by
  obtain ⟨hx, hb, hr, hml, hown, hts, hlocks, hK, hN, hZ⟩ := F
  have hh := mm_pR_e h; clear h; obtain ⟨a, r, rfl, h⟩ := hh
  have hh := mm_som_e h; clear h; obtain ⟨b, hs, h⟩ := hh
  have hh := mm_g_e h; clear h; obtain ⟨h8, h⟩ := hh
  obtain ⟨i, hi, rfl, -, -⟩ := ms_ix hs
  have hw : ∀ w ∈ mm_ws0, w.before args s = true := fun w q => hts w (List.mem_cons_of_mem _ q)
  refine va_calli (va_runV (own := mm_R T.1) (As := []) (rest := r.map (mm_re ad)) ⟨hx, hb, hml, hown, hts⟩ (hLen _ b hs) ⟨callB_of 0 hts (mm_w_good (ms_in _ (List.mem_of_getElem? (i := 26) rfl))) rfl rfl rfl (hw _ (ms_in _ (List.mem_of_getElem? (i := 7) rfl))) (hw _ (mm_x_facts hx3)) ⟨by decide, by decide, by decide⟩ ⟨by show 4 + 1 ≤ d + 1 + 8; omega, by show 8 + (1 + 11) + 200 ≤ 64 * (d + 1 + 8); omega⟩, hw _ (ms_in _ (List.mem_of_getElem? (i := 24) rfl)), hw _ (ms_in _ (List.mem_of_getElem? (i := 25) rfl))⟩ ⟨mm_blindS, vk_recv hZ.1 hi hS, fun U hU hW => ⟨rfl, by show mm_S ad adV A U U.heap; rw [hU]; exact (hZ.kept hS.2.1).warm hW⟩⟩ rfl rfl hl.2.1.1 rfl (lv_room (mm_r8_e (ad := ad) h8)) hd ⟨Nat.le_refl 0, Nat.le_refl 0⟩) hS (fun _ _ q => q.elim) (fun _ q => q.elim) (fun rr u t H1 locs1 ht hvm hw _ hz1 hk1 hS => ?_)
  subst hw
  exact h H1 locs1 ls (hP.kept (fun k q hq => hk1 q.1 (hP k q hq).lt (fun z => z))) hS hl
theorem mm_charat_c {idx pc : Nat} {L st : List Value} {σ : mm_M} {H : Heap} {locs : List Loc} {ls : Array Slot} (hChr : mm_Chr l ad adV A) (F : mm_Fix ad adV cA D A T n p s m args meth c) (hS : va_S A s.heap H locs) (hl : mm_rel ad L LL ls n) (hP : va_P D vwCl (mm_ws sh ad cA σ) H)
    (hx3 : mm_find T.1 idx mm_xtab = some 4) (hd : decode T.2.2.1 pc = .ok (.invokevirtual idx, 3)) (h : mm_pI st fun i r => mm_pR r fun a r => mm_som (mm_str a) fun b => mm_g (mm_r8 r) (vp_in i b.length ∧ mm_X sh ad adV cA D A d n LL P p l e s m args below meth c (pc + 3) L (.int (b.getD i.toNatClampNeg 0) :: r) σ)) : W p l e (mm_rm (d + 1)) s m args below meth c H locs 0 0 (MQ below (mm_Q ad (mm_B sh ad adV cA D A) A P) args s 0 0 A) (F0 m pc ls (st.map (mm_re ad))) := by
  obtain ⟨hx, hb, hr, hml, hown, hts, hlocks, hK, hN, hZ⟩ := F
  have hh := mm_pI_e h; clear h; obtain ⟨k, r0, rfl, h⟩ := hh
  have hh := mm_pR_e h; clear h; obtain ⟨a, r, rfl, h⟩ := hh
  have hh := mm_som_e h; clear h; obtain ⟨b, hs, h⟩ := hh
  have hh := mm_g_e h; clear h; obtain ⟨h8, h⟩ := hh
  obtain ⟨hin, h⟩ := h
  obtain ⟨i, hi, rfl, -, -⟩ := ms_ix hs
  have hw : ∀ w ∈ mm_ws0, w.before args s = true := fun w q => hts w (List.mem_cons_of_mem _ q)
  refine va_calli (va_runV (own := mm_R T.1) (As := [.int k]) (rest := r.map (mm_re ad)) ⟨hx, hb, hml, hown, hts⟩ (hChr _ b k hs hin) ⟨callB_of 1 hts (mm_w_good (ms_in _ (List.mem_of_getElem? (i := 29) rfl))) rfl rfl rfl (hw _ (ms_in _ (List.mem_of_getElem? (i := 7) rfl))) (hw _ (mm_x_facts hx3)) ⟨by decide, by decide, by decide⟩ ⟨by show 4 + 1 ≤ d + 1 + 8; omega, by show 8 + (2 + 11) + 200 ≤ 64 * (d + 1 + 8); omega⟩, hw _ (ms_in _ (List.mem_of_getElem? (i := 27) rfl)), hw _ (ms_in _ (List.mem_of_getElem? (i := 28) rfl))⟩ ⟨mm_blindS, vk_recv hZ.1 hi hS, fun U hU hW => ⟨rfl, by show mm_S ad adV A U U.heap; rw [hU]; exact (hZ.kept hS.2.1).warm hW⟩⟩ rfl rfl hl.2.1.1 rfl (lv_room (mm_r8_e (ad := ad) h8)) hd ⟨Nat.le_refl 0, Nat.le_refl 0⟩) hS (fun _ _ q => q.elim) (fun _ q => q.elim) (fun rr u t H1 locs1 ht hvm hw _ hz1 hk1 hS => ?_)
  subst hw
  exact h H1 locs1 ls (hP.kept (fun k q hq => hk1 q.1 (hP k q hq).lt (fun z => z))) hS hl
theorem mm_rget {L : List Value} {ls : Array Slot} (h : mm_rel ad L LL ls n) {i : Nat} {v : Value} (hi : L[i]? = some v) (hv : v ≠ .null) : ls[i]? = some (.val (mm_re ad v)) := h.2.2.2.2 i v hi hv
theorem mm_okL_lt {L : List Value} {i : Nat} (h : mm_okL L LL i = true) : i < L.length := by
  unfold mm_okL at h
  rw [Bool.and_eq_true] at h
  exact Nat.le_of_ble_eq_true h.1
set_option maxRecDepth 100000 in
set_option maxHeartbeats 8000000 in
theorem mm_close (hLen : mm_Len l ad adV A) (hChr : mm_Chr l ad adV A) (hI : mm_IH l sh ad adV cA D A d) (F : mm_Fix ad adV cA D A T n p s m args meth c) (hD : ∀ σ, va_D A (mm_ws sh ad cA σ)) (hT : T ∈ mm_mtab) (pc : Nat) (L st : List Value) (σ : mm_M) (h : mm_dec sh (mm_run sh d) T LL pc L st σ (mm_X sh ad adV cA D A d n LL P p l e s m args below meth c) P) : mm_X sh ad adV cA D A d n LL P p l e s m args below meth c pc L st σ := by
  intro H locs ls hP hS hl
  have F' := F
  obtain ⟨hx, hb, hr, hml, hown, hts, hlocks, hK, hN, hZ⟩ := F
  have hw : ∀ w ∈ mm_ws0, w.before args s = true := fun w q => hts w (List.mem_cons_of_mem _ q)
  unfold mm_dec at h
  split at h
  case h_2 => exact h.elim
  case h_1 q hd =>
  obtain ⟨i, len⟩ := q
  dsimp only at h
  cases i <;> try exact False.elim h
  case iconst k => have hh := mm_g1 h; clear h; obtain ⟨rfl, h⟩ := hh; exact lv_iconst hx hb hd rfl (h H locs ls hP hS hl)
  case bipush k => have hh := mm_g1 h; clear h; obtain ⟨rfl, h⟩ := hh; exact lv_bipush hx hb hd rfl (h H locs ls hP hS hl)
  case sipush k => have hh := mm_g1 h; clear h; obtain ⟨rfl, h⟩ := hh; exact lv_sipush hx hb hd rfl (h H locs ls hP hS hl)
  case lconst k => have hh := mm_g1 h; clear h; obtain ⟨rfl, h⟩ := hh; exact lv_lconst hx hb hd rfl (h H locs ls hP hS hl)
  case ldc idx =>
    have hh := mm_g1 h; clear h; obtain ⟨rfl, h⟩ := hh
    split at h
    · rename_i v hv
      exact lv_ldc hx hb hown (hw _ (mm_c_const _ (List.mem_map.mpr ⟨_, mm_find_mem hv, rfl⟩))) hd (h H locs ls hP hS hl)
    · have hh := mm_som_e h; clear h; obtain ⟨a, h1, h⟩ := hh
      obtain ⟨tx, ht⟩ := hZ.2.1 _ (mm_find_mem h1)
      exact va_ldcS hx hb hown ht hd (h H locs ls hP hS hl)
  case ldc_w idx =>
    have hh := mm_g1 h; clear h; obtain ⟨rfl, h⟩ := hh
    have hh := mm_som_e h; clear h; obtain ⟨v, hv, h⟩ := hh
    exact lv_ldcw hx hb hown (hw _ (mm_c_const _ (List.mem_map.mpr ⟨_, mm_find_mem hv, rfl⟩))) hd (h H locs ls hP hS hl)
  case ldc2_w idx =>
    have hh := mm_g1 h; clear h; obtain ⟨rfl, h⟩ := hh
    have hh := mm_som_e h; clear h; obtain ⟨v, hv, h⟩ := hh
    exact lv_ldc2 hx hb hown (hw _ (mm_c_long _ (List.mem_map.mpr ⟨_, mm_find_mem hv, rfl⟩))) hd (h H locs ls hP hS hl)
  case iload_n k => have hh := mm_g1 h; clear h; obtain ⟨rfl, h⟩ := hh; have hh := mm_lI_e h; clear h; obtain ⟨x, h1, h⟩ := hh; exact lv_iload_n hx hb hd rfl (mm_rget hl h1 (fun q => by cases q)) (h H locs ls hP hS hl)
  case iload k => have hh := mm_g1 h; clear h; obtain ⟨rfl, h⟩ := hh; have hh := mm_lI_e h; clear h; obtain ⟨x, h1, h⟩ := hh; exact lv_iload hx hb hd (mm_rget hl h1 (fun q => by cases q)) (h H locs ls hP hS hl)
  case aload_n k => have hh := mm_g1 h; clear h; obtain ⟨rfl, h⟩ := hh; have hh := mm_lR_e h; clear h; obtain ⟨x, h1, h⟩ := hh; exact lv_aload_n hx hb hd rfl (mm_rget hl h1 (fun q => by cases q)) (h H locs ls hP hS hl)
  case aload k => have hh := mm_g1 h; clear h; obtain ⟨rfl, h⟩ := hh; have hh := mm_lR_e h; clear h; obtain ⟨x, h1, h⟩ := hh; exact lv_aload hx hb hd (mm_rget hl h1 (fun q => by cases q)) (h H locs ls hP hS hl)
  case lload_n k => have hh := mm_g1 h; clear h; obtain ⟨rfl, h⟩ := hh; have hh := mm_lL_e h; clear h; obtain ⟨x, h1, h⟩ := hh; exact lv_lload_n hx hb hd rfl (hl.2.2.1 _ h1) (h H locs ls hP hS hl)
  case lload k => have hh := mm_g1 h; clear h; obtain ⟨rfl, h⟩ := hh; have hh := mm_lL_e h; clear h; obtain ⟨x, h1, h⟩ := hh; exact lv_lload hx hb hd (hl.2.2.1 _ h1) (h H locs ls hP hS hl)
  case istore_n k =>
    have hh := mm_g_e h; clear h; obtain ⟨g, h⟩ := hh
    rw [Bool.and_eq_true] at g
    obtain ⟨g, hok⟩ := g
    have g := eq_of_beq g
    subst g
    have hh := mm_pI_e h; clear h; obtain ⟨x, r, rfl, h⟩ := hh
    exact lv_istore_n hx hb hd rfl (mm_has_all hl.2.1) (by rw [← hl.1]; exact mm_okL_lt hok) rfl (fun ls' h' => h H locs ls' hP hS (mm_rel_set hl hok h'))
  case istore k =>
    have hh := mm_g_e h; clear h; obtain ⟨g, h⟩ := hh
    rw [Bool.and_eq_true] at g
    obtain ⟨g, hok⟩ := g
    have g := eq_of_beq g
    subst g
    have hh := mm_pI_e h; clear h; obtain ⟨x, r, rfl, h⟩ := hh
    exact lv_istore hx hb hd (mm_has_all hl.2.1) (by rw [← hl.1]; exact mm_okL_lt hok) rfl (fun ls' h' => h H locs ls' hP hS (mm_rel_set hl hok h'))
  case iinc k dd =>
    have hh := mm_g_e h; clear h; obtain ⟨g, h⟩ := hh
    rw [Bool.and_eq_true] at g
    obtain ⟨g, hok⟩ := g
    have g := eq_of_beq g
    subst g
    have hh := mm_lI_e h; clear h; obtain ⟨x, h1, h⟩ := hh
    obtain ⟨j, hj⟩ := List.getElem?_of_mem (mm_all_mem.mpr (mm_rget hl h1 (fun q => by cases q)))
    exact lv_iinc hx hb hd (mm_has_all hl.2.1) hj rfl (by rw [← hl.1]; exact mm_okL_lt hok) rfl (fun ls' h' => h H locs ls' hP hS (mm_rel_set hl hok h'))
  case iadd => have hh := mm_g1 h; clear h; obtain ⟨rfl, h⟩ := hh; have hh := mm_pI_e h; clear h; obtain ⟨y, r, rfl, h⟩ := hh; have hh := mm_pI_e h; clear h; obtain ⟨x, r2, rfl, h⟩ := hh; exact lv_iadd hx hb hd (h H locs ls hP hS hl)
  case isub => have hh := mm_g1 h; clear h; obtain ⟨rfl, h⟩ := hh; have hh := mm_pI_e h; clear h; obtain ⟨y, r, rfl, h⟩ := hh; have hh := mm_pI_e h; clear h; obtain ⟨x, r2, rfl, h⟩ := hh; exact lv_isub hx hb hd (h H locs ls hP hS hl)
  case imul => have hh := mm_g1 h; clear h; obtain ⟨rfl, h⟩ := hh; have hh := mm_pI_e h; clear h; obtain ⟨y, r, rfl, h⟩ := hh; have hh := mm_pI_e h; clear h; obtain ⟨x, r2, rfl, h⟩ := hh; exact lv_imul hx hb hd (h H locs ls hP hS hl)
  case iand => have hh := mm_g1 h; clear h; obtain ⟨rfl, h⟩ := hh; have hh := mm_pI_e h; clear h; obtain ⟨y, r, rfl, h⟩ := hh; have hh := mm_pI_e h; clear h; obtain ⟨x, r2, rfl, h⟩ := hh; exact lv_iand hx hb hd (h H locs ls hP hS hl)
  case ior => have hh := mm_g1 h; clear h; obtain ⟨rfl, h⟩ := hh; have hh := mm_pI_e h; clear h; obtain ⟨y, r, rfl, h⟩ := hh; have hh := mm_pI_e h; clear h; obtain ⟨x, r2, rfl, h⟩ := hh; exact lv_ior hx hb hd (h H locs ls hP hS hl)
  case ixor => have hh := mm_g1 h; clear h; obtain ⟨rfl, h⟩ := hh; have hh := mm_pI_e h; clear h; obtain ⟨y, r, rfl, h⟩ := hh; have hh := mm_pI_e h; clear h; obtain ⟨x, r2, rfl, h⟩ := hh; exact lv_ixor hx hb hd (h H locs ls hP hS hl)
  case ishl => have hh := mm_g1 h; clear h; obtain ⟨rfl, h⟩ := hh; have hh := mm_pI_e h; clear h; obtain ⟨y, r, rfl, h⟩ := hh; have hh := mm_pI_e h; clear h; obtain ⟨x, r2, rfl, h⟩ := hh; exact lv_ishl hx hb hd (h H locs ls hP hS hl)
  case ishr => have hh := mm_g1 h; clear h; obtain ⟨rfl, h⟩ := hh; have hh := mm_pI_e h; clear h; obtain ⟨y, r, rfl, h⟩ := hh; have hh := mm_pI_e h; clear h; obtain ⟨x, r2, rfl, h⟩ := hh; exact lv_ishr hx hb hd (h H locs ls hP hS hl)
  case idiv => have hh := mm_g1 h; clear h; obtain ⟨rfl, h⟩ := hh; have hh := mm_pI_e h; clear h; obtain ⟨y, r, rfl, h⟩ := hh; have hh := mm_pI_e h; clear h; obtain ⟨x, r2, rfl, h⟩ := hh; exact lv_idiv hx hb hd h.1 (h.2 H locs ls hP hS hl)
  case irem => have hh := mm_g1 h; clear h; obtain ⟨rfl, h⟩ := hh; have hh := mm_pI_e h; clear h; obtain ⟨y, r, rfl, h⟩ := hh; have hh := mm_pI_e h; clear h; obtain ⟨x, r2, rfl, h⟩ := hh; exact lv_irem hx hb hd h.1 (h.2 H locs ls hP hS hl)
  case ineg => have hh := mm_g1 h; clear h; obtain ⟨rfl, h⟩ := hh; have hh := mm_pI_e h; clear h; obtain ⟨y, r, rfl, h⟩ := hh; exact lv_ineg hx hb hd (h H locs ls hP hS hl)
  case ladd => have hh := mm_g1 h; clear h; obtain ⟨rfl, h⟩ := hh; have hh := mm_pL_e h; clear h; obtain ⟨y, r, rfl, h⟩ := hh; have hh := mm_pL_e h; clear h; obtain ⟨x, r2, rfl, h⟩ := hh; exact lv_ladd hx hb hd (h H locs ls hP hS hl)
  case lsub => have hh := mm_g1 h; clear h; obtain ⟨rfl, h⟩ := hh; have hh := mm_pL_e h; clear h; obtain ⟨y, r, rfl, h⟩ := hh; have hh := mm_pL_e h; clear h; obtain ⟨x, r2, rfl, h⟩ := hh; exact lv_lsub hx hb hd (h H locs ls hP hS hl)
  case lmul => have hh := mm_g1 h; clear h; obtain ⟨rfl, h⟩ := hh; have hh := mm_pL_e h; clear h; obtain ⟨y, r, rfl, h⟩ := hh; have hh := mm_pL_e h; clear h; obtain ⟨x, r2, rfl, h⟩ := hh; exact lv_lmul hx hb hd (h H locs ls hP hS hl)
  case land => have hh := mm_g1 h; clear h; obtain ⟨rfl, h⟩ := hh; have hh := mm_pL_e h; clear h; obtain ⟨y, r, rfl, h⟩ := hh; have hh := mm_pL_e h; clear h; obtain ⟨x, r2, rfl, h⟩ := hh; exact lv_land hx hb hd (h H locs ls hP hS hl)
  case lrem => have hh := mm_g1 h; clear h; obtain ⟨rfl, h⟩ := hh; have hh := mm_pL_e h; clear h; obtain ⟨y, r, rfl, h⟩ := hh; have hh := mm_pL_e h; clear h; obtain ⟨x, r2, rfl, h⟩ := hh; exact lv_lrem hx hb hd h.1 (h.2 H locs ls hP hS hl)
  case lshr => have hh := mm_g1 h; clear h; obtain ⟨rfl, h⟩ := hh; have hh := mm_pI_e h; clear h; obtain ⟨y, r, rfl, h⟩ := hh; have hh := mm_pL_e h; clear h; obtain ⟨x, r2, rfl, h⟩ := hh; exact lv_lshr hx hb hd rfl (h H locs ls hP hS hl)
  case lcmp => have hh := mm_g1 h; clear h; obtain ⟨rfl, h⟩ := hh; have hh := mm_pL_e h; clear h; obtain ⟨y, r, rfl, h⟩ := hh; have hh := mm_pL_e h; clear h; obtain ⟨x, r2, rfl, h⟩ := hh; exact W.lcmp hx hb hd (h H locs ls hP hS hl)
  case i2l => have hh := mm_g1 h; clear h; obtain ⟨rfl, h⟩ := hh; have hh := mm_pI_e h; clear h; obtain ⟨y, r, rfl, h⟩ := hh; exact lv_i2l hx hb hd rfl (h H locs ls hP hS hl)
  case l2i => have hh := mm_g1 h; clear h; obtain ⟨rfl, h⟩ := hh; have hh := mm_pL_e h; clear h; obtain ⟨y, r, rfl, h⟩ := hh; exact lv_l2i hx hb hd rfl (h H locs ls hP hS hl)
  case i2b => have hh := mm_g1 h; clear h; obtain ⟨rfl, h⟩ := hh; have hh := mm_pI_e h; clear h; obtain ⟨y, r, rfl, h⟩ := hh; exact lv_i2b hx hb hd rfl (h H locs ls hP hS hl)
  case ifCond cd off =>
    have hh := mm_g1 h; clear h; obtain ⟨rfl, h⟩ := hh
    have hh := mm_pI_e h; clear h; obtain ⟨x, r, rfl, h⟩ := hh
    have hh := mm_j_e h; clear h; obtain ⟨t, ht, h⟩ := hh
    have h := mm_jif_e h
    cases cd
    · exact lv_if_eq hx hb hd ht (fun q => h.1 q H locs ls hP hS hl) (fun q => h.2 q H locs ls hP hS hl)
    · exact lv_if_ne hx hb hd ht (fun q => h.1 q H locs ls hP hS hl) (fun q => h.2 q H locs ls hP hS hl)
    · exact lv_if_lt hx hb hd ht (fun q => h.1 q H locs ls hP hS hl) (fun q => h.2 q H locs ls hP hS hl)
    · exact lv_if_ge hx hb hd ht (fun q => h.1 q H locs ls hP hS hl) (fun q => h.2 q H locs ls hP hS hl)
    · exact lv_if_gt hx hb hd ht (fun q => h.1 q H locs ls hP hS hl) (fun q => h.2 q H locs ls hP hS hl)
    · exact lv_if_le hx hb hd ht (fun q => h.1 q H locs ls hP hS hl) (fun q => h.2 q H locs ls hP hS hl)
  case if_icmp cd off =>
    have hh := mm_g1 h; clear h; obtain ⟨rfl, h⟩ := hh
    have hh := mm_pI_e h; clear h; obtain ⟨y, r, rfl, h⟩ := hh
    have hh := mm_pI_e h; clear h; obtain ⟨x, r2, rfl, h⟩ := hh
    have hh := mm_j_e h; clear h; obtain ⟨t, ht, h⟩ := hh
    have h := mm_jif_e h
    cases cd
    · exact lv_icmp_eq hx hb hd ht (fun q => h.1 q H locs ls hP hS hl) (fun q => h.2 q H locs ls hP hS hl)
    · exact lv_icmp_ne hx hb hd ht (fun q => h.1 q H locs ls hP hS hl) (fun q => h.2 q H locs ls hP hS hl)
    · exact lv_icmp_lt hx hb hd ht (fun q => h.1 q H locs ls hP hS hl) (fun q => h.2 q H locs ls hP hS hl)
    · exact lv_icmp_ge hx hb hd ht (fun q => h.1 q H locs ls hP hS hl) (fun q => h.2 q H locs ls hP hS hl)
    · exact lv_icmp_gt hx hb hd ht (fun q => h.1 q H locs ls hP hS hl) (fun q => h.2 q H locs ls hP hS hl)
    · exact lv_icmp_le hx hb hd ht (fun q => h.1 q H locs ls hP hS hl) (fun q => h.2 q H locs ls hP hS hl)
  case goto off =>
    have hh := mm_g1 h; clear h; obtain ⟨rfl, h⟩ := hh
    have hh := mm_j_e h; clear h; obtain ⟨t, ht, h⟩ := hh
    exact lv_goto hx hb hd ht (h H locs ls hP hS hl)
  case tableswitch dflt lo hi offs =>
    have hh := mm_pI_e h; clear h; obtain ⟨x, r, rfl, h⟩ := hh
    have h := mm_if _ h
    by_cases hc : x.toInt < lo ∨ hi < x.toInt
    · obtain ⟨t, ht, h⟩ := mm_j_e (h.1 hc)
      exact lv_tableOut hx hb hd hc ht (h H locs ls hP hS hl)
    · obtain ⟨off, ho, h⟩ := mm_som_e (h.2 hc)
      have hh := mm_j_e h; clear h; obtain ⟨t, ht, h⟩ := hh
      exact lv_tableIn hx hb hd (fun q => hc (Or.inl q)) (fun q => hc (Or.inr q)) ho ht (h H locs ls hP hS hl)
  case dup =>
    have hh := mm_g1 h; clear h; obtain ⟨rfl, h⟩ := hh
    split at h
    · exact lv_dup hx hb hd rfl (h H locs ls hP hS hl)
    · exact lv_dup hx hb hd rfl (h H locs ls hP hS hl)
    · exact h.elim
  case pop =>
    have hh := mm_g1 h; clear h; obtain ⟨rfl, h⟩ := hh
    split at h
    · exact lv_pop hx hb (va := .int _) hd rfl (h H locs ls hP hS hl)
    · exact lv_pop hx hb (va := .ref _) hd rfl (h H locs ls hP hS hl)
    · exact h.elim
  case getfield idx =>
    have hh := mm_g1 h; clear h; obtain ⟨rfl, h⟩ := hh
    have hh := mm_pR_e h; clear h; obtain ⟨a, r, rfl, h⟩ := hh
    have hh := mm_fld_e h; clear h; obtain ⟨ci, j, fks, f, h1, h2, h3, h⟩ := hh
    obtain ⟨f1, f2, f3⟩ := mm_f_facts h1
    exact va_get hx hb hw (mm_u_in f1) hown hK hP a (mm_ws_get h2) (mm_cl f1) j f2 (hw _ f3) (fun _ q => q) (mm_fs_get h3) hd (h H locs ls hP hS hl)
  case putfield idx =>
    have hh := mm_g1 h; clear h; obtain ⟨rfl, h⟩ := hh
    split at h
    · have hh := mm_pR_e h; clear h; obtain ⟨a, r2, rfl, h⟩ := hh
      have hh := mm_fld_e h; clear h; obtain ⟨ci, j, fks, f, h1, h2, h3, h⟩ := hh
      obtain ⟨f1, f2, f3⟩ := mm_f_facts h1
      cases f with
      | some _ => exact h.elim
      | none =>
        have hh := mm_narrow h; clear h; obtain ⟨g1, g2, g3, h⟩ := hh
        refine va_put hx hb hw (mm_u_in f1) (mm_ty ci) (mm_tyok f1) (mm_nm f1) hown hK hP (hD σ) hS a (mm_ws_get h2) (mm_cl f1) j f2 (hw _ f3) (fun _ q => q) (mm_fin ci f1 j f2 (by rcases g1 with q | q <;> simp [q])) (mm_tyok f1 j f2) g2 g3 (List.getElem?_eq_some_iff.mp (mm_fs_get (ad := ad) (σ := σ) (a := a) h3)).1 hd (fun H1 locs1 hP1 _ hS1 => ?_)
        dsimp only [mm_re] at hP1
        rw [mm_setF h2 h3] at hP1
        exact h H1 locs1 ls hP1 hS1 hl
    · have hh := mm_pR_e h; clear h; obtain ⟨a, r2, rfl, h⟩ := hh
      have hh := mm_fld_e h; clear h; obtain ⟨ci, j, fks, f, h1, h2, h3, h⟩ := hh
      obtain ⟨f1, f2, f3⟩ := mm_f_facts h1
      split at h
      · rename_i hty
        refine va_put hx hb hw (mm_u_in f1) (mm_ty ci) (mm_tyok f1) (mm_nm f1) hown hK hP (hD σ) hS a (mm_ws_get h2) (mm_cl f1) j f2 (hw _ f3) (fun _ q => q) (mm_fin ci f1 j f2 (by simp [hty])) (mm_tyok f1 j f2) (by rw [hty]; rfl) (by rw [hty]; rfl) (List.getElem?_eq_some_iff.mp (mm_fs_get (ad := ad) (σ := σ) (a := a) h3)).1 hd (fun H1 locs1 hP1 _ hS1 => ?_)
        dsimp only [mm_re] at hP1
        rw [mm_setL h2 h3] at hP1
        exact h H1 locs1 ls hP1 hS1 hl
      · exact h.elim
    · exact h.elim
  case arraylength =>
    have hh := mm_g1 h; clear h; obtain ⟨rfl, h⟩ := hh
    have hh := mm_pR_e h; clear h; obtain ⟨a, r, rfl, h⟩ := hh
    have hh := mm_arr_e h; clear h; obtain ⟨ty, k, h1, h⟩ := hh
    split at h
    · exact va_alen hx hb hK hP a 0 (mm_ws_get h1) rfl rfl hd (h H locs ls hP hS hl)
    · exact va_alen hx hb hK hP a 1 (mm_ws_get h1) rfl rfl hd (h H locs ls hP hS hl)
    · exact va_alen hx hb hK hP a 2 (mm_ws_get h1) rfl rfl hd (h H locs ls hP hS hl)
    · exact h.elim
  case iaload =>
    have hh := mm_g1 h; clear h; obtain ⟨rfl, h⟩ := hh
    have hh := mm_pI_e h; clear h; obtain ⟨i, r, rfl, h⟩ := hh
    have hh := mm_pR_e h; clear h; obtain ⟨a, r2, rfl, h⟩ := hh
    have hh := mm_arr_e h; clear h; obtain ⟨ty, k, h1, h⟩ := hh
    split at h
    · exact va_iald hx hb hK hP a 0 (mm_ws_get h1) rfl h.1 hd (h.2 H locs ls hP hS hl)
    · exact h.elim
  case baload =>
    have hh := mm_g1 h; clear h; obtain ⟨rfl, h⟩ := hh
    have hh := mm_pI_e h; clear h; obtain ⟨i, r, rfl, h⟩ := hh
    have hh := mm_pR_e h; clear h; obtain ⟨a, r2, rfl, h⟩ := hh
    have hh := mm_arr_e h; clear h; obtain ⟨ty, k, h1, h⟩ := hh
    split at h
    · exact va_bald hx hb hK hP a 1 (mm_ws_get h1) rfl h.1 hd (h.2 H locs ls hP hS hl)
    · exact va_zald hx hb hK hP a 2 (mm_ws_get h1) rfl h.1 hd (h.2 H locs ls hP hS hl)
    · exact h.elim
  case iastore =>
    have hh := mm_g1 h; clear h; obtain ⟨rfl, h⟩ := hh
    have hh := mm_pI_e h; clear h; obtain ⟨x, r, rfl, h⟩ := hh
    have hh := mm_pI_e h; clear h; obtain ⟨i, r2, rfl, h⟩ := hh
    have hh := mm_pR_e h; clear h; obtain ⟨a, r3, rfl, h⟩ := hh
    have hh := mm_arr_e h; clear h; obtain ⟨ty, k, h1, h⟩ := hh
    split at h
    · refine va_iast hx hb hK hP (hD σ) hS a 0 (mm_ws_get h1) rfl h.1 hd (fun H1 locs1 hP1 _ hS1 => ?_)
      rw [mm_setA h1] at hP1
      exact h.2 H1 locs1 ls hP1 hS1 hl
    · exact h.elim
  case bastore =>
    have hh := mm_g1 h; clear h; obtain ⟨rfl, h⟩ := hh
    have hh := mm_pI_e h; clear h; obtain ⟨x, r, rfl, h⟩ := hh
    have hh := mm_pI_e h; clear h; obtain ⟨i, r2, rfl, h⟩ := hh
    have hh := mm_pR_e h; clear h; obtain ⟨a, r3, rfl, h⟩ := hh
    have hh := mm_arr_e h; clear h; obtain ⟨ty, k, h1, h⟩ := hh
    split at h
    · refine va_bast hx hb hK hP (hD σ) hS a 1 (mm_ws_get h1) rfl h.1 hd (fun H1 locs1 hP1 _ hS1 => ?_)
      rw [mm_setA h1] at hP1
      exact h.2 H1 locs1 ls hP1 hS1 hl
    · refine va_zast hx hb hK hP (hD σ) hS a 2 (mm_ws_get h1) rfl h.1 hd (fun H1 locs1 hP1 _ hS1 => ?_)
      rw [mm_setA h1] at hP1
      exact h.2 H1 locs1 ls hP1 hS1 hl
    · exact h.elim
  case invokevirtual idx =>
    have hh := mm_g1 h; clear h; obtain ⟨rfl, h⟩ := hh
    split at h
    · rename_i j hj
      have hh := mm_g_e h; clear h; obtain ⟨hst, h⟩ := hh
      have hm := mm_find_mem hj
      have hok := List.all_eq_true.mp mm_l_ok _ hm
      rw [Bool.and_eq_true] at hok
      have hjl := Nat.le_of_ble_eq_true hok.1
      exact mm_virt_c hI F' (hD σ) hT hP hS hl (hw _ (mm_l_link _ (List.mem_map.mpr ⟨_, hm, rfl⟩))) hjl (by simpa using hst) (mm_c8 (mm_mt_mem hjl)) hd h
    · have hh := mm_som_e h; clear h; obtain ⟨x, hx3, h⟩ := hh
      split at h
      · exact mm_strlen_c hLen F' hS hl hP hx3 hd h
      · exact mm_charat_c hChr F' hS hl hP hx3 hd h
      · exact h.elim
  case invokestatic idx =>
    have hh := mm_g1 h; clear h; obtain ⟨rfl, h⟩ := hh
    split at h
    · rename_i j hj
      have hh := mm_g_e h; clear h; obtain ⟨hst, h⟩ := hh
      have hm := mm_find_mem hj
      have hok := List.all_eq_true.mp mm_l_ok _ hm
      rw [Bool.and_eq_true] at hok
      have hjl := Nat.le_of_ble_eq_true hok.1
      exact mm_static_c hI F' (hD σ) hT hP hS hl (Or.inl (hw _ (mm_l_link _ (List.mem_map.mpr ⟨_, hm, rfl⟩)))) hjl hst hd h
    · split at h
      · rename_i j hj
        have hh := mm_g_e h; clear h; obtain ⟨hst, h⟩ := hh
        have hm := mm_find_mem hj
        have hok := List.all_eq_true.mp mm_n_ok _ hm
        rw [Bool.and_eq_true] at hok
        have hjl := Nat.le_of_ble_eq_true hok.1
        exact mm_static_c hI F' (hD σ) hT hP hS hl (Or.inr (hN _ hm)) hjl hst hd h
      · have hh := mm_som_e h; clear h; obtain ⟨x, hx3, h⟩ := hh
        have hlk := hw _ (mm_x_facts hx3)
        split at h
        · have hh := mm_pI_e h; clear h; obtain ⟨y, r, rfl, h⟩ := hh
          have hh := mm_g_e h; clear h; obtain ⟨h8, h⟩ := hh
          exact va_mabs hx hb (hml.trans hl.2.1.1.symm) hown hlk (hw _ (mm_x_words _ (by simp))) (hw _ (mm_x_words _ (by simp))) (hw _ (mm_x_words _ (by simp))) (by show 1 ≤ d + 1 + 8; omega) (by have e := mm_r8_e (ad := ad) h8; show _ + 13 ≤ 64 * (d + 1 + 8); omega) (Nat.le_refl 0) (Nat.le_refl 0) hd (h H locs ls hP hS hl)
        · have hh := mm_pI_e h; clear h; obtain ⟨y, r, rfl, h⟩ := hh
          have hh := mm_pI_e h; clear h; obtain ⟨x, r2, rfl, h⟩ := hh
          have hh := mm_g_e h; clear h; obtain ⟨h8, h⟩ := hh
          exact va_mmax hx hb (hml.trans hl.2.1.1.symm) hown hlk (hw _ (mm_x_words _ (by simp))) (hw _ (mm_x_words _ (by simp))) (hw _ (mm_x_words _ (by simp))) (by show 1 ≤ d + 1 + 8; omega) (by have e := mm_r8_e (ad := ad) h8; show _ + 13 ≤ 64 * (d + 1 + 8); omega) (Nat.le_refl 0) (Nat.le_refl 0) hd (h H locs ls hP hS hl)
        · exact h.elim
  case ireturn =>
    have hh := mm_g1 h; clear h; obtain ⟨rfl, h⟩ := hh
    have hh := mm_pI_e h; clear h; obtain ⟨x, r, rfl, h⟩ := hh
    have hh := mm_pE_e h; clear h; obtain ⟨rfl, h⟩ := hh
    have hh := mm_som_e h; clear h; obtain ⟨ty, h1, h⟩ := hh
    have hh := mm_narrow h; clear h; obtain ⟨g1, g2, g3, h⟩ := hh
    exact W.zret hx hb (hr.trans h1) g2 (fun t ht hW => ⟨⟨some (.int x), σ, rfl, h, mm_B_of hP hS hK hN hZ (hD σ) ht hW⟩, hS.F ht⟩) hS.2.2 hd hlocks
  case lreturn =>
    have hh := mm_g1 h; clear h; obtain ⟨rfl, h⟩ := hh
    have hh := mm_pL_e h; clear h; obtain ⟨x, r, rfl, h⟩ := hh
    have hh := mm_pE_e h; clear h; obtain ⟨rfl, h⟩ := hh
    split at h
    · rename_i h1
      exact W.lret hx hb (hr.trans h1) (fun t ht hW => ⟨⟨some (.long x), σ, rfl, h, mm_B_of hP hS hK hN hZ (hD σ) ht hW⟩, hS.F ht⟩) hS.2.2 hd hlocks
    · exact h.elim
  case areturn =>
    have hh := mm_g1 h; clear h; obtain ⟨rfl, h⟩ := hh
    have hh := mm_pR_e h; clear h; obtain ⟨x, r, rfl, h⟩ := hh
    have hh := mm_pE_e h; clear h; obtain ⟨rfl, h⟩ := hh
    split at h
    · rename_i C h1
      exact W.aret hx hb (hr.trans h1) (Or.inl ⟨_, rfl⟩) (Or.inr ⟨_, rfl⟩) (fun t ht hW => ⟨⟨some (.ref x), σ, rfl, h, mm_B_of hP hS hK hN hZ (hD σ) ht hW⟩, hS.F ht⟩) hS.2.2 hd hlocks
    · exact h.elim
  case return_ =>
    have hh := mm_g1 h; clear h; obtain ⟨rfl, h⟩ := hh
    have hh := mm_pE_e h; clear h; obtain ⟨rfl, h⟩ := hh
    split at h
    · rename_i h1
      exact W.vret hx hb (hr.trans h1) (fun t ht hW => ⟨⟨none, σ, rfl, h, mm_B_of hP hS hK hN hZ (hD σ) ht hW⟩, hS.F ht⟩) hS.2.2 hd hlocks
    · exact h.elim
end MD
