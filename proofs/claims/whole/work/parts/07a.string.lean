/-! STRING.LENGTH AND STRING.CHARAT, by their bytecode (the texts are of one byte a letter) -/
def ms_wl : List Cond := [.fieldLink RJ0 38 "java/lang/String" "COMPACT_STRINGS" "Z", .fieldLink RJ0 15 "java/lang/String" "coder" "B", .fieldLink RJ0 9 "java/lang/String" "value" "[B", .methodLink RJ0 335 yJ0_coder_7d493, .instanceMethod yJ0_coder_7d493, .selects RJ0 yJ0_coder_7d493 yJ0_coder_7d493, .code yJ0_coder_7d493 cJ0_coder_7d493 1 (some .byte), .initialized RJ0, .methodLink RJ0 492 yJ0_isLatin1_aae02, .instanceMethod yJ0_isLatin1_aae02, .selects RJ0 yJ0_isLatin1_aae02 yJ0_isLatin1_aae02, .code yJ0_isLatin1_aae02 cJ0_isLatin1_aae02 1 (some .boolean), .methodLink RJ0 495 yJ1_charAt_3b067, .static yJ1_charAt_3b067, .code yJ1_charAt_3b067 cJ1_charAt_3b067 2 (some .char), .initialized RJ1, .methodLink RJ1 9 yJ0_checkIndex_df160, .static yJ0_checkIndex_df160, .code yJ0_checkIndex_df160 cJ0_checkIndex_df160 2 none, .fieldLink RJ0 1053 "jdk/internal/util/Preconditions" "SIOOBE_FORMATTER" "Ljava/util/function/BiFunction;", .methodLink RJ0 1059 yJ3_checkIndex_8e157, .static yJ3_checkIndex_8e157, .code yJ3_checkIndex_8e157 cJ3_checkIndex_8e157 3 (some .int), .initialized RJ3, .instanceMethod yJ0_length_8abf5, .selects RJ0 yJ0_length_8abf5 yJ0_length_8abf5, .code yJ0_length_8abf5 cJ0_length_8abf5 1 (some .int), .instanceMethod yJ0_charAt_5068e, .selects RJ0 yJ0_charAt_5068e yJ0_charAt_5068e, .code yJ0_charAt_5068e cJ0_charAt_5068e 2 (some .char)]
set_option maxRecDepth 100000 in
theorem ms_in : ∀ w ∈ ms_wl, w ∈ mm_ws0 := mm_bulk _ [381, 1156, 1155, 377, 378, 379, 380, 64, 387, 388, 389, 390, 391, 392, 393, 65, 394, 395, 396, 397, 399, 400, 401, 66, 374, 375, 376, 384, 385, 386] rfl (by decide +kernel)
def ms_N (f : Nat) : Room := { frames := f, cells := 0, slots := 0, locals := 40 * (f + 1) }
theorem ms_wk {A : Nat → Prop} {H0 H : Heap} {locs : List Loc} (h : va_S (fun _ => False) H0 H locs) : va_S A H0 H locs := ⟨h.1, fun q h1 _ => h.2.1 q h1 (fun z => z), fun l hl => (h.2.2 l hl).elim⟩
theorem ms_room (f n : Nat) (hn : n ≤ 3) : (ms_N f).frames + 1 ≤ (ms_N (f + 1)).frames ∧ 8 + (n + 11) + (ms_N f).locals ≤ (ms_N (f + 1)).locals := ⟨Nat.le_refl _, by show 8 + (n + 11) + 40 * (f + 1) ≤ 40 * (f + 1 + 1); omega⟩
theorem ms_pre {ad adV : Nat → Nat} {A : Nat → Prop} {s : State} {H : Heap} {locs : List Loc} {as : List Value} (hZ : mm_S ad adV A s s.heap) (hS : va_S (fun _ => False) s.heap H locs) : PreS s H (va_Pc as (fun U => mm_S ad adV A U U.heap)) as :=
  ⟨mm_blindS, fun U hU hW => ⟨rfl, by show mm_S ad adV A U U.heap; rw [hU]; exact (hZ.kept (ms_wk hS).2.1).warm hW⟩⟩
theorem ms_lt {k : Int32} {N : Nat} (h : vp_in k N) (hN : N < 2 ^ 31) : ¬ k < 0 ∧ k < nI N := by
  obtain ⟨j, hj, rfl⟩ := vp_in_of h hN
  refine ⟨fun q => h (Or.inl q), ?_⟩
  exact nI_lt hj hN
set_option maxHeartbeats 4000000 in
theorem ms_coder (l : Launch) (ad adV : Nat → Nat) (A : Nat → Prop) (f : Nat) {i : Nat} (hi : i < 3) : Met l yJ0_coder_7d493 (.code yJ0_coder_7d493 cJ0_coder_7d493 1 (some .byte) :: mm_ws0) (ms_N f) (va_Pc [.ref (ad (1000 + i))] (fun U => mm_S ad adV A U U.heap)) (va_Qi (fun r (_ : Unit) => r = 0) (fun _ _ => True) (fun _ => False)) 0 0 (fun _ => False) := by
  refine Met.ofW (cc := cJ0_coder_7d493) (maxL := 1) (ret := (some .byte)) (by decide) rfl ?_
  intro p e s m args below meth c s₁ B hml hv
  obtain ⟨rfl, hZ⟩ := hv
  have hx := B.exec
  have hb := B.bytes
  have hr := B.returns
  have hts := atoms_spec (ws := .code yJ0_coder_7d493 cJ0_coder_7d493 1 (some .byte) :: mm_ws0) B.pre
  have hown : s.vm.findClass RJ0 = some m.cls := findClass_of_methodNamed B.named
  have hlocks := B.notSynchronized
  have hS : va_S (fun _ => False) s.heap s.heap [] := va_S.rf
  have hl := lv_entry ([.ref (ad (1000 + i))]) (n := 1) (Nat.le_of_ble_eq_true rfl)
  rw [lg_entry_eq]
  generalize (lg_sl ([.ref (ad (1000 + i))]) ++ List.replicate (1 - (lg_sl ([.ref (ad (1000 + i))])).length) Slot.unset).toArray = ls at hl ⊢
  refine va_gets hx hb hZ.2.2.1 (ms_wk hS) hown (hts _ (List.mem_cons_of_mem _ (ms_in _ (List.mem_of_getElem? (i := 0) rfl)))) (fun _ q => q) dJ0_coder_7d493_0 ?_
  refine lv_if_eq (tgt := 13) hx hb dJ0_coder_7d493_3 (by decide) (fun q => absurd q (by decide)) (fun _ => ?_)
  refine lv_aload_n hx hb dJ0_coder_7d493_6 rfl (lv_at hl 0 rfl) ?_
  refine vk_getf hx hb (hZ.1.1 i hi).2.1 (ms_wk hS) hown (hts _ (List.mem_cons_of_mem _ (ms_in _ (List.mem_of_getElem? (i := 1) rfl)))) (fun _ q => q) dJ0_coder_7d493_7 ?_
  refine lv_goto (tgt := 14) hx hb dJ0_coder_7d493_10 (by decide) ?_
  exact W.zret hx hb hr rfl (fun t ht hW => ⟨⟨_, (), rfl, rfl, trivial⟩, hS.F ht⟩) hS.2.2 dJ0_coder_7d493_14 hlocks
set_option maxHeartbeats 4000000 in
theorem ms_isLatin1 (l : Launch) (ad adV : Nat → Nat) (A : Nat → Prop) (f : Nat) {i : Nat} (hi : i < 3) : Met l yJ0_isLatin1_aae02 (.code yJ0_isLatin1_aae02 cJ0_isLatin1_aae02 1 (some .boolean) :: mm_ws0) (ms_N f) (va_Pc [.ref (ad (1000 + i))] (fun U => mm_S ad adV A U U.heap)) (va_Qi (fun r (_ : Unit) => r = 1) (fun _ _ => True) (fun _ => False)) 0 0 (fun _ => False) := by
  refine Met.ofW (cc := cJ0_isLatin1_aae02) (maxL := 1) (ret := (some .boolean)) (by decide) rfl ?_
  intro p e s m args below meth c s₁ B hml hv
  obtain ⟨rfl, hZ⟩ := hv
  have hx := B.exec
  have hb := B.bytes
  have hr := B.returns
  have hts := atoms_spec (ws := .code yJ0_isLatin1_aae02 cJ0_isLatin1_aae02 1 (some .boolean) :: mm_ws0) B.pre
  have hown : s.vm.findClass RJ0 = some m.cls := findClass_of_methodNamed B.named
  have hlocks := B.notSynchronized
  have hS : va_S (fun _ => False) s.heap s.heap [] := va_S.rf
  have hl := lv_entry ([.ref (ad (1000 + i))]) (n := 1) (Nat.le_of_ble_eq_true rfl)
  rw [lg_entry_eq]
  generalize (lg_sl ([.ref (ad (1000 + i))]) ++ List.replicate (1 - (lg_sl ([.ref (ad (1000 + i))])).length) Slot.unset).toArray = ls at hl ⊢
  refine va_gets hx hb hZ.2.2.1 (ms_wk hS) hown (hts _ (List.mem_cons_of_mem _ (ms_in _ (List.mem_of_getElem? (i := 0) rfl)))) (fun _ q => q) dJ0_isLatin1_aae02_0 ?_
  refine lv_if_eq (tgt := 17) hx hb dJ0_isLatin1_aae02_3 (by decide) (fun q => absurd q (by decide)) (fun _ => ?_)
  refine lv_aload_n hx hb dJ0_isLatin1_aae02_6 rfl (lv_at hl 0 rfl) ?_
  refine vk_getf hx hb (hZ.1.1 i hi).2.1 (ms_wk hS) hown (hts _ (List.mem_cons_of_mem _ (ms_in _ (List.mem_of_getElem? (i := 1) rfl)))) (fun _ q => q) dJ0_isLatin1_aae02_7 ?_
  refine lv_if_ne (tgt := 17) hx hb dJ0_isLatin1_aae02_10 (by decide) (fun q => absurd rfl q) (fun _ => ?_)
  refine lv_iconst (v := 1) hx hb dJ0_isLatin1_aae02_13 (by decide) ?_
  refine lv_goto (tgt := 18) hx hb dJ0_isLatin1_aae02_14 (by decide) ?_
  exact W.zret hx hb hr rfl (fun t ht hW => ⟨⟨_, (), rfl, rfl, trivial⟩, hS.F ht⟩) hS.2.2 dJ0_isLatin1_aae02_18 hlocks
theorem ms_sh0 (x : Int32) : x >>> (0 : Int32) = x := by
  apply Int32.toBitVec_inj.mp
  simp [Int32.toBitVec_shiftRight]
abbrev ms_len : List Nat := [5, 6, 5]
set_option maxHeartbeats 4000000 in
theorem ms_length (l : Launch) (ad adV : Nat → Nat) (A : Nat → Prop) (f : Nat) {i : Nat} (hi : i < 3) : Met l yJ0_length_8abf5 (.code yJ0_length_8abf5 cJ0_length_8abf5 1 (some .int) :: mm_ws0) (ms_N (f + 1)) (va_Pc [.ref (ad (1000 + i))] (fun U => mm_S ad adV A U U.heap)) (va_Qi (fun r (_ : Unit) => r = nI (ms_len.getD i 0)) (fun _ _ => True) (fun _ => False)) 0 0 (fun _ => False) := by
  refine Met.ofW (cc := cJ0_length_8abf5) (maxL := 1) (ret := (some .int)) (by decide) rfl ?_
  intro p e s m args below meth c s₁ B hml hv
  obtain ⟨rfl, hZ⟩ := hv
  have hx := B.exec
  have hb := B.bytes
  have hr := B.returns
  have hts := atoms_spec (ws := .code yJ0_length_8abf5 cJ0_length_8abf5 1 (some .int) :: mm_ws0) B.pre
  have hown : s.vm.findClass RJ0 = some m.cls := findClass_of_methodNamed B.named
  have hlocks := B.notSynchronized
  have hS : va_S (fun _ => False) s.heap s.heap [] := va_S.rf
  have hl := lv_entry ([.ref (ad (1000 + i))]) (n := 1) (Nat.le_of_ble_eq_true rfl)
  rw [lg_entry_eq]
  generalize (lg_sl ([.ref (ad (1000 + i))]) ++ List.replicate (1 - (lg_sl ([.ref (ad (1000 + i))])).length) Slot.unset).toArray = ls at hl ⊢
  refine lv_aload_n hx hb dJ0_length_8abf5_0 rfl (lv_at hl 0 rfl) ?_
  refine vk_getf hx hb (hZ.1.1 i hi).2.2.1 (ms_wk hS) hown (hts _ (List.mem_cons_of_mem _ (ms_in _ (List.mem_of_getElem? (i := 2) rfl)))) (fun _ q => q) dJ0_length_8abf5_1 ?_
  refine va_tlen hx hb (hZ.1.1 i hi).2.2.2 (ms_wk hS) rfl dJ0_length_8abf5_4 ?_
  refine lv_aload_n hx hb dJ0_length_8abf5_5 rfl (lv_at hl 0 rfl) ?_
  refine va_calli (va_runV (own := RJ0) (As := []) (rest := [.int (Int32.ofNat (ms_len.getD i 0))]) ⟨hx, hb, hml, hown, hts⟩ (ms_coder l ad adV A f hi) ⟨callB_of 0 hts (mm_w_good (ms_in _ (List.mem_of_getElem? (i := 6) rfl))) rfl rfl rfl (hts _ (List.mem_cons_of_mem _ (ms_in _ (List.mem_of_getElem? (i := 7) rfl)))) (hts _ (List.mem_cons_of_mem _ (ms_in _ (List.mem_of_getElem? (i := 3) rfl)))) ⟨by decide, by decide, by decide⟩ (ms_room f _ (by decide)), (hts _ (List.mem_cons_of_mem _ (ms_in _ (List.mem_of_getElem? (i := 4) rfl)))), (hts _ (List.mem_cons_of_mem _ (ms_in _ (List.mem_of_getElem? (i := 5) rfl))))⟩ ⟨mm_blindS, vk_recv hZ.1 hi (ms_wk hS), (ms_pre (as := [.ref (ad (1000 + i))]) hZ hS).2⟩ rfl rfl hl.1 rfl (lv_room (Nat.le_of_ble_eq_true rfl)) dJ0_length_8abf5_6 ⟨Nat.le_refl 0, Nat.le_refl 0⟩) hS (fun _ _ q => q) (fun _ q => q) (fun r u t H1 locs1 ht hvm hw _ hz1 hk1 hS => ?_)
  subst hw
  refine lv_ishr hx hb dJ0_length_8abf5_9 ?_
  exact W.zret hx hb hr rfl (fun t ht hW => ⟨⟨_, (), rfl, (by rw [show ((0 : Int32) &&& 31) = 0 from rfl]; exact ms_sh0 _), trivial⟩, hS.F ht⟩) hS.2.2 dJ0_length_8abf5_10 hlocks
set_option maxHeartbeats 4000000 in
theorem ms_pcN (l : Launch) (ad adV : Nat → Nat) (A : Nat → Prop) (f : Nat) {N : Nat} {k : Int32} (hk : vp_in k N) (hN : N < 2 ^ 31) : Met l yJ3_checkIndex_8e157 (.code yJ3_checkIndex_8e157 cJ3_checkIndex_8e157 3 (some .int) :: mm_ws0) (ms_N f) (va_Pc [.int k, .int (nI N), .null] (fun U => mm_S ad adV A U U.heap)) (va_Qi (fun r (_ : Unit) => r = k) (fun _ _ => True) (fun _ => False)) 0 0 (fun _ => False) := by
  refine Met.ofW (cc := cJ3_checkIndex_8e157) (maxL := 3) (ret := (some .int)) (by decide) rfl ?_
  intro p e s m args below meth c s₁ B hml hv
  obtain ⟨rfl, hZ⟩ := hv
  have hx := B.exec
  have hb := B.bytes
  have hr := B.returns
  have hts := atoms_spec (ws := .code yJ3_checkIndex_8e157 cJ3_checkIndex_8e157 3 (some .int) :: mm_ws0) B.pre
  have hown : s.vm.findClass RJ3 = some m.cls := findClass_of_methodNamed B.named
  have hlocks := B.notSynchronized
  have hS : va_S (fun _ => False) s.heap s.heap [] := va_S.rf
  have hl := lv_entry ([.int k, .int (nI N), .null]) (n := 3) (Nat.le_of_ble_eq_true rfl)
  rw [lg_entry_eq]
  generalize (lg_sl ([.int k, .int (nI N), .null]) ++ List.replicate (3 - (lg_sl ([.int k, .int (nI N), .null])).length) Slot.unset).toArray = ls at hl ⊢
  refine lv_iload_n hx hb dJ3_checkIndex_8e157_0 rfl (lv_at hl 0 rfl) ?_
  refine lv_if_lt (tgt := 9) hx hb dJ3_checkIndex_8e157_1 (by decide) (fun q => absurd q (ms_lt hk hN).1) (fun _ => ?_)
  refine lv_iload_n hx hb dJ3_checkIndex_8e157_4 rfl (lv_at hl 0 rfl) ?_
  refine lv_iload_n hx hb dJ3_checkIndex_8e157_5 rfl (lv_at hl 1 rfl) ?_
  refine lv_icmp_lt (tgt := 16) hx hb dJ3_checkIndex_8e157_6 (by decide) (fun _ => ?_) (fun q => absurd (ms_lt hk hN).2 q)
  refine lv_iload_n hx hb dJ3_checkIndex_8e157_16 rfl (lv_at hl 0 rfl) ?_
  exact W.zret hx hb hr rfl (fun t ht hW => ⟨⟨_, (), rfl, rfl, trivial⟩, hS.F ht⟩) hS.2.2 dJ3_checkIndex_8e157_17 hlocks
set_option maxHeartbeats 4000000 in
theorem ms_pcR (l : Launch) (ad adV : Nat → Nat) (A : Nat → Prop) (f : Nat) (t : Nat) {N : Nat} {k : Int32} (hk : vp_in k N) (hN : N < 2 ^ 31) : Met l yJ3_checkIndex_8e157 (.code yJ3_checkIndex_8e157 cJ3_checkIndex_8e157 3 (some .int) :: mm_ws0) (ms_N f) (va_Pc [.int k, .int (nI N), .ref t] (fun U => mm_S ad adV A U U.heap)) (va_Qi (fun r (_ : Unit) => r = k) (fun _ _ => True) (fun _ => False)) 0 0 (fun _ => False) := by
  refine Met.ofW (cc := cJ3_checkIndex_8e157) (maxL := 3) (ret := (some .int)) (by decide) rfl ?_
  intro p e s m args below meth c s₁ B hml hv
  obtain ⟨rfl, hZ⟩ := hv
  have hx := B.exec
  have hb := B.bytes
  have hr := B.returns
  have hts := atoms_spec (ws := .code yJ3_checkIndex_8e157 cJ3_checkIndex_8e157 3 (some .int) :: mm_ws0) B.pre
  have hown : s.vm.findClass RJ3 = some m.cls := findClass_of_methodNamed B.named
  have hlocks := B.notSynchronized
  have hS : va_S (fun _ => False) s.heap s.heap [] := va_S.rf
  have hl := lv_entry ([.int k, .int (nI N), .ref t]) (n := 3) (Nat.le_of_ble_eq_true rfl)
  rw [lg_entry_eq]
  generalize (lg_sl ([.int k, .int (nI N), .ref t]) ++ List.replicate (3 - (lg_sl ([.int k, .int (nI N), .ref t])).length) Slot.unset).toArray = ls at hl ⊢
  refine lv_iload_n hx hb dJ3_checkIndex_8e157_0 rfl (lv_at hl 0 rfl) ?_
  refine lv_if_lt (tgt := 9) hx hb dJ3_checkIndex_8e157_1 (by decide) (fun q => absurd q (ms_lt hk hN).1) (fun _ => ?_)
  refine lv_iload_n hx hb dJ3_checkIndex_8e157_4 rfl (lv_at hl 0 rfl) ?_
  refine lv_iload_n hx hb dJ3_checkIndex_8e157_5 rfl (lv_at hl 1 rfl) ?_
  refine lv_icmp_lt (tgt := 16) hx hb dJ3_checkIndex_8e157_6 (by decide) (fun _ => ?_) (fun q => absurd (ms_lt hk hN).2 q)
  refine lv_iload_n hx hb dJ3_checkIndex_8e157_16 rfl (lv_at hl 0 rfl) ?_
  exact W.zret hx hb hr rfl (fun t ht hW => ⟨⟨_, (), rfl, rfl, trivial⟩, hS.F ht⟩) hS.2.2 dJ3_checkIndex_8e157_17 hlocks
set_option maxHeartbeats 4000000 in
theorem ms_check (l : Launch) (ad adV : Nat → Nat) (A : Nat → Prop) (f : Nat) {N : Nat} {k : Int32} (hk : vp_in k N) (hN : N < 2 ^ 31) : Met l yJ0_checkIndex_df160 (.code yJ0_checkIndex_df160 cJ0_checkIndex_df160 2 none :: mm_ws0) (ms_N (f + 1)) (va_Pc [.int k, .int (nI N)] (fun U => mm_S ad adV A U U.heap)) (va_Qv (fun _ : Unit => True) (fun _ _ => True) (fun _ => False)) 0 0 (fun _ => False) := by
  refine Met.ofW (cc := cJ0_checkIndex_df160) (maxL := 2) (ret := none) (by decide) rfl ?_
  intro p e s m args below meth c s₁ B hml hv
  obtain ⟨rfl, hZ⟩ := hv
  have hx := B.exec
  have hb := B.bytes
  have hr := B.returns
  have hts := atoms_spec (ws := .code yJ0_checkIndex_df160 cJ0_checkIndex_df160 2 none :: mm_ws0) B.pre
  have hown : s.vm.findClass RJ0 = some m.cls := findClass_of_methodNamed B.named
  have hlocks := B.notSynchronized
  have hS : va_S (fun _ => False) s.heap s.heap [] := va_S.rf
  have hl := lv_entry ([.int k, .int (nI N)]) (n := 2) (Nat.le_of_ble_eq_true rfl)
  rw [lg_entry_eq]
  generalize (lg_sl ([.int k, .int (nI N)]) ++ List.replicate (2 - (lg_sl ([.int k, .int (nI N)])).length) Slot.unset).toArray = ls at hl ⊢
  refine lv_iload_n hx hb dJ0_checkIndex_df160_0 rfl (lv_at hl 0 rfl) ?_
  refine lv_iload_n hx hb dJ0_checkIndex_df160_1 rfl (lv_at hl 1 rfl) ?_
  rcases hZ.2.2.2 with hq | ⟨t, hq⟩
  · refine va_gets hx hb hq (ms_wk hS) hown (hts _ (List.mem_cons_of_mem _ (ms_in _ (List.mem_of_getElem? (i := 19) rfl)))) (fun _ q => q) dJ0_checkIndex_df160_2 ?_
    refine va_calli (va_runS (own := RJ0) (As := [.int k, .int (nI N), .null]) (rest := []) ⟨hx, hb, hml, hown, hts⟩ (ms_pcN l ad adV A f hk hN) ⟨callB_of 3 hts (mm_w_good (ms_in _ (List.mem_of_getElem? (i := 22) rfl))) rfl rfl rfl (hts _ (List.mem_cons_of_mem _ (ms_in _ (List.mem_of_getElem? (i := 23) rfl)))) (hts _ (List.mem_cons_of_mem _ (ms_in _ (List.mem_of_getElem? (i := 20) rfl)))) ⟨by decide, by decide, by decide⟩ (ms_room f _ (by decide)), (hts _ (List.mem_cons_of_mem _ (ms_in _ (List.mem_of_getElem? (i := 21) rfl))))⟩ (ms_pre hZ hS) rfl rfl hl.1 rfl (lv_room (Nat.le_of_ble_eq_true rfl)) dJ0_checkIndex_df160_5 ⟨Nat.le_refl 0, Nat.le_refl 0⟩) hS (fun _ _ q => q) (fun _ q => q) (fun r u t H1 locs1 ht hvm hw _ hz1 hk1 hS => ?_)
    refine lv_pop hx hb dJ0_checkIndex_df160_8 rfl ?_
    exact W.vret hx hb hr (fun t ht hW => ⟨⟨(), rfl, trivial, trivial⟩, hS.F ht⟩) hS.2.2 dJ0_checkIndex_df160_9 hlocks
  · refine va_gets hx hb hq (ms_wk hS) hown (hts _ (List.mem_cons_of_mem _ (ms_in _ (List.mem_of_getElem? (i := 19) rfl)))) (fun _ q => q) dJ0_checkIndex_df160_2 ?_
    refine va_calli (va_runS (own := RJ0) (As := [.int k, .int (nI N), .ref t]) (rest := []) ⟨hx, hb, hml, hown, hts⟩ (ms_pcR l ad adV A f t hk hN) ⟨callB_of 3 hts (mm_w_good (ms_in _ (List.mem_of_getElem? (i := 22) rfl))) rfl rfl rfl (hts _ (List.mem_cons_of_mem _ (ms_in _ (List.mem_of_getElem? (i := 23) rfl)))) (hts _ (List.mem_cons_of_mem _ (ms_in _ (List.mem_of_getElem? (i := 20) rfl)))) ⟨by decide, by decide, by decide⟩ (ms_room f _ (by decide)), (hts _ (List.mem_cons_of_mem _ (ms_in _ (List.mem_of_getElem? (i := 21) rfl))))⟩ (ms_pre hZ hS) rfl rfl hl.1 rfl (lv_room (Nat.le_of_ble_eq_true rfl)) dJ0_checkIndex_df160_5 ⟨Nat.le_refl 0, Nat.le_refl 0⟩) hS (fun _ _ q => q) (fun _ q => q) (fun r u t H1 locs1 ht hvm hw _ hz1 hk1 hS => ?_)
    refine lv_pop hx hb dJ0_checkIndex_df160_8 rfl ?_
    exact W.vret hx hb hr (fun t ht hW => ⟨⟨(), rfl, trivial, trivial⟩, hS.F ht⟩) hS.2.2 dJ0_checkIndex_df160_9 hlocks
theorem ms_ch : ∀ i, i < 3 → ∀ j, j < ms_len.getD i 0 → ((((mm_bytes.getD i []).getD j 0 &&& 255).toUInt32 % 65536).toInt32 = (mm_bytes.getD i []).getD j 0 ∧ narrow .char (.int ((mm_bytes.getD i []).getD j 0)) = .int ((mm_bytes.getD i []).getD j 0)) := by decide +kernel
theorem ms_len_lt : ∀ i, ms_len.getD i 0 < 2 ^ 31 := fun i => by
  match i with
  | 0 => decide
  | 1 => decide
  | 2 => decide
  | i + 3 => exact Nat.le_of_ble_eq_true rfl
set_option maxHeartbeats 4000000 in
theorem ms_charL (l : Launch) (ad adV : Nat → Nat) (A : Nat → Prop) (f : Nat) {i : Nat} (hi : i < 3) {k : Int32} (hk : vp_in k (ms_len.getD i 0)) : Met l yJ1_charAt_3b067 (.code yJ1_charAt_3b067 cJ1_charAt_3b067 2 (some .char) :: mm_ws0) (ms_N (f + 1 + 1)) (va_Pc [.ref (adV i), .int k] (fun U => mm_S ad adV A U U.heap)) (va_Qi (fun r (_ : Unit) => r = (mm_bytes.getD i []).getD k.toNatClampNeg 0) (fun _ _ => True) (fun _ => False)) 0 0 (fun _ => False) := by
  refine Met.ofW (cc := cJ1_charAt_3b067) (maxL := 2) (ret := (some .char)) (by decide) rfl ?_
  intro p e s m args below meth c s₁ B hml hv
  obtain ⟨rfl, hZ⟩ := hv
  have hx := B.exec
  have hb := B.bytes
  have hr := B.returns
  have hts := atoms_spec (ws := .code yJ1_charAt_3b067 cJ1_charAt_3b067 2 (some .char) :: mm_ws0) B.pre
  have hown : s.vm.findClass RJ1 = some m.cls := findClass_of_methodNamed B.named
  have hlocks := B.notSynchronized
  have hS : va_S (fun _ => False) s.heap s.heap [] := va_S.rf
  have hl := lv_entry ([.ref (adV i), .int k]) (n := 2) (Nat.le_of_ble_eq_true rfl)
  rw [lg_entry_eq]
  generalize (lg_sl ([.ref (adV i), .int k]) ++ List.replicate (2 - (lg_sl ([.ref (adV i), .int k])).length) Slot.unset).toArray = ls at hl ⊢
  have hj : k.toNatClampNeg < ms_len.getD i 0 := Nat.not_le.mp fun q => hk (Or.inr q)
  refine lv_iload_n hx hb dJ1_charAt_3b067_0 rfl (lv_at hl 1 rfl) ?_
  refine lv_aload_n hx hb dJ1_charAt_3b067_1 rfl (lv_at hl 0 rfl) ?_
  refine va_tlen hx hb (hZ.1.1 i hi).2.2.2 (ms_wk hS) rfl dJ1_charAt_3b067_2 ?_
  refine va_callv (va_runS (own := RJ1) (As := [.int k, .int (nI (ms_len.getD i 0))]) (rest := []) ⟨hx, hb, hml, hown, hts⟩ (ms_check l ad adV A f hk (ms_len_lt i)) ⟨callB_of 2 hts (mm_w_good (ms_in _ (List.mem_of_getElem? (i := 18) rfl))) rfl rfl rfl (hts _ (List.mem_cons_of_mem _ (ms_in _ (List.mem_of_getElem? (i := 7) rfl)))) (hts _ (List.mem_cons_of_mem _ (ms_in _ (List.mem_of_getElem? (i := 16) rfl)))) ⟨by decide, by decide, by decide⟩ (ms_room (f + 1) _ (by decide)), (hts _ (List.mem_cons_of_mem _ (ms_in _ (List.mem_of_getElem? (i := 17) rfl))))⟩ (ms_pre hZ hS) rfl rfl hl.1 rfl (lv_room (Nat.le_of_ble_eq_true rfl)) dJ1_charAt_3b067_3 ⟨Nat.le_refl 0, Nat.le_refl 0⟩) hS (fun _ _ q => q) (fun _ q => q) (fun u t H1 locs1 ht hvm hw _ hz1 hk1 hS => ?_)
  refine lv_aload_n hx hb dJ1_charAt_3b067_6 rfl (lv_at hl 0 rfl) ?_
  refine lv_iload_n hx hb dJ1_charAt_3b067_7 rfl (lv_at hl 1 rfl) ?_
  refine va_tb hx hb (hZ.1.1 i hi).2.2.2 (ms_wk hS) (i := k) hk rfl dJ1_charAt_3b067_8 ?_
  refine lv_sipush (v := 255) hx hb dJ1_charAt_3b067_9 (by decide) ?_
  refine lv_iand hx hb dJ1_charAt_3b067_12 ?_
  refine lv_i2c hx hb dJ1_charAt_3b067_13 (ms_ch i hi _ hj).1 ?_
  exact W.zret hx hb hr (ms_ch i hi _ hj).2 (fun t ht hW => ⟨⟨_, (), rfl, rfl, trivial⟩, hS.F ht⟩) hS.2.2 dJ1_charAt_3b067_14 hlocks
set_option maxHeartbeats 4000000 in
theorem ms_charAt (l : Launch) (ad adV : Nat → Nat) (A : Nat → Prop) (f : Nat) {i : Nat} (hi : i < 3) {k : Int32} (hk : vp_in k (ms_len.getD i 0)) : Met l yJ0_charAt_5068e (.code yJ0_charAt_5068e cJ0_charAt_5068e 2 (some .char) :: mm_ws0) (ms_N (f + 1 + 1 + 1)) (va_Pc [.ref (ad (1000 + i)), .int k] (fun U => mm_S ad adV A U U.heap)) (va_Qi (fun r (_ : Unit) => r = (mm_bytes.getD i []).getD k.toNatClampNeg 0) (fun _ _ => True) (fun _ => False)) 0 0 (fun _ => False) := by
  refine Met.ofW (cc := cJ0_charAt_5068e) (maxL := 2) (ret := (some .char)) (by decide) rfl ?_
  intro p e s m args below meth c s₁ B hml hv
  obtain ⟨rfl, hZ⟩ := hv
  have hx := B.exec
  have hb := B.bytes
  have hr := B.returns
  have hts := atoms_spec (ws := .code yJ0_charAt_5068e cJ0_charAt_5068e 2 (some .char) :: mm_ws0) B.pre
  have hown : s.vm.findClass RJ0 = some m.cls := findClass_of_methodNamed B.named
  have hlocks := B.notSynchronized
  have hS : va_S (fun _ => False) s.heap s.heap [] := va_S.rf
  have hl := lv_entry ([.ref (ad (1000 + i)), .int k]) (n := 2) (Nat.le_of_ble_eq_true rfl)
  rw [lg_entry_eq]
  generalize (lg_sl ([.ref (ad (1000 + i)), .int k]) ++ List.replicate (2 - (lg_sl ([.ref (ad (1000 + i)), .int k])).length) Slot.unset).toArray = ls at hl ⊢
  have hj : k.toNatClampNeg < ms_len.getD i 0 := Nat.not_le.mp fun q => hk (Or.inr q)
  refine lv_aload_n hx hb dJ0_charAt_5068e_0 rfl (lv_at hl 0 rfl) ?_
  refine va_calli (va_runV (own := RJ0) (As := []) (rest := []) ⟨hx, hb, hml, hown, hts⟩ (ms_isLatin1 l ad adV A (f + 1 + 1) hi) ⟨callB_of 0 hts (mm_w_good (ms_in _ (List.mem_of_getElem? (i := 11) rfl))) rfl rfl rfl (hts _ (List.mem_cons_of_mem _ (ms_in _ (List.mem_of_getElem? (i := 7) rfl)))) (hts _ (List.mem_cons_of_mem _ (ms_in _ (List.mem_of_getElem? (i := 8) rfl)))) ⟨by decide, by decide, by decide⟩ (ms_room (f + 1 + 1) _ (by decide)), (hts _ (List.mem_cons_of_mem _ (ms_in _ (List.mem_of_getElem? (i := 9) rfl)))), (hts _ (List.mem_cons_of_mem _ (ms_in _ (List.mem_of_getElem? (i := 10) rfl))))⟩ ⟨mm_blindS, vk_recv hZ.1 hi (ms_wk hS), (ms_pre (as := [.ref (ad (1000 + i))]) hZ hS).2⟩ rfl rfl hl.1 rfl (lv_room (Nat.le_of_ble_eq_true rfl)) dJ0_charAt_5068e_1 ⟨Nat.le_refl 0, Nat.le_refl 0⟩) hS (fun _ _ q => q) (fun _ q => q) (fun r u t H1 locs1 ht hvm hw _ hz1 hk1 hS => ?_)
  subst hw
  refine lv_if_eq (tgt := 16) hx hb dJ0_charAt_5068e_4 (by decide) (fun q => absurd q (by decide)) (fun _ => ?_)
  refine lv_aload_n hx hb dJ0_charAt_5068e_7 rfl (lv_at hl 0 rfl) ?_
  refine vk_getf hx hb (hZ.1.1 i hi).2.2.1 (ms_wk hS) hown (hts _ (List.mem_cons_of_mem _ (ms_in _ (List.mem_of_getElem? (i := 2) rfl)))) (fun _ q => q) dJ0_charAt_5068e_8 ?_
  refine lv_iload_n hx hb dJ0_charAt_5068e_11 rfl (lv_at hl 1 rfl) ?_
  refine va_calli (va_runS (own := RJ0) (As := [.ref (adV i), .int k]) (rest := []) ⟨hx, hb, hml, hown, hts⟩ (ms_charL l ad adV A f hi hk) ⟨callB_of 2 hts (mm_w_good (ms_in _ (List.mem_of_getElem? (i := 14) rfl))) rfl rfl rfl (hts _ (List.mem_cons_of_mem _ (ms_in _ (List.mem_of_getElem? (i := 15) rfl)))) (hts _ (List.mem_cons_of_mem _ (ms_in _ (List.mem_of_getElem? (i := 12) rfl)))) ⟨by decide, by decide, by decide⟩ (ms_room (f + 1 + 1) _ (by decide)), (hts _ (List.mem_cons_of_mem _ (ms_in _ (List.mem_of_getElem? (i := 13) rfl))))⟩ (ms_pre hZ hS) rfl rfl hl.1 rfl (lv_room (Nat.le_of_ble_eq_true rfl)) dJ0_charAt_5068e_12 ⟨Nat.le_refl 0, Nat.le_refl 0⟩) hS (fun _ _ q => q) (fun _ q => q) (fun r u t H1 locs1 ht hvm hw _ hz1 hk1 hS => ?_)
  subst hw
  exact W.zret hx hb hr (ms_ch i hi _ hj).2 (fun t ht hW => ⟨⟨_, (), rfl, rfl, trivial⟩, hS.F ht⟩) hS.2.2 dJ0_charAt_5068e_15 hlocks
theorem ms_ix {a : Nat} {b : List Int32} (h : mm_str a = some b) : ∃ i, i < 3 ∧ a = 1000 + i ∧ mm_bytes.getD i [] = b ∧ ms_len.getD i 0 = b.length := by
  obtain ⟨i, hi, ha, hb⟩ := mm_str_e h
  refine ⟨i, hi, ha, ?_⟩
  match i, hi with
  | 0, _ => cases hb; exact ⟨rfl, rfl⟩
  | 1, _ => cases hb; exact ⟨rfl, rfl⟩
  | 2, _ => cases hb; exact ⟨rfl, rfl⟩
theorem ms_Len (l : Launch) (ad adV : Nat → Nat) (A : Nat → Prop) : mm_Len l ad adV A := by
  intro a b h
  obtain ⟨i, hi, rfl, -, e2⟩ := ms_ix h
  have k := ms_length l ad adV A 3 hi
  rw [e2] at k
  exact k
theorem ms_Chr (l : Launch) (ad adV : Nat → Nat) (A : Nat → Prop) : mm_Chr l ad adV A := by
  intro a b i h hin
  obtain ⟨j, hj, rfl, e1, e2⟩ := ms_ix h
  have k := ms_charAt l ad adV A 1 hj (k := i) (by rw [e2]; exact hin)
  rw [e1] at k
  exact k
