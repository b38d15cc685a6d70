/-! CONSTRUCTORS: rows and objects are made, one behind another -/
def mc_y (ci : Nat) : MethodName := ⟨mm_R ci, "<init>", "()V"⟩
def mc_c : Nat → ByteArray
  | 0 => cX0_init
  | 1 => cX1_init
  | 2 => cX2_init
  | 3 => cX3_init
  | 4 => cX4_init
  | 5 => cX5_init
  | 6 => cX6_init
  | _ => cX7_init
/-- nest mates' constructors: own class, number, the class made -/
def mc_ntab : List (Nat × Nat × Nat) := [(6, 9, 1), (6, 18, 5), (6, 25, 2), (6, 32, 3), (6, 39, 4), (6, 46, 0), (1, 17, 5), (4, 17, 2)]
set_option maxRecDepth 100000 in
theorem mc_n_link : ∀ w ∈ mc_ntab.map (fun q => Cond.methodLinkNest (mm_R q.1) q.2.1 (mc_y q.2.2) RX6), w ∈ lw_tbl := fun w hw => by
  have hp : mc_ntab.map (fun q => Cond.methodLinkNest (mm_R q.1) q.2.1 (mc_y q.2.2) RX6) = [79, 190, 193, 216, 244, 267, 85, 249].filterMap (fun i => lw_tbl[i]?) := by decide +kernel
  rw [hp] at hw
  obtain ⟨i, -, hi⟩ := List.mem_filterMap.mp hw
  exact List.mem_of_getElem? hi
def mc_N (U : State) : Prop := ∀ q ∈ mc_ntab, va_Nw (.methodLinkNest (mm_R q.1) q.2.1 (mc_y q.2.2) RX6) U
theorem mc_N.warm {s U : State} (hW : s.WarmedH U.vm) (h : mc_N s) : mc_N U := fun q hq => va_Nw.warmM hW (h q hq)
theorem mc_N.same {s U : State} (hv : s.vm = U.vm) (h : mc_N s) : mc_N U := fun q hq => va_Nw.same rfl hv (h q hq)
/-- words: the constructors' code, Object's, the links -/
def mc_wl : List Cond := ((List.range 8).map fun ci => Cond.code (mc_y ci) (mc_c ci) 1 none) ++ ((List.range 8).map fun ci => Cond.instanceMethod (mc_y ci)) ++ ((List.range 8).map fun ci => Cond.initialized (mm_R ci)) ++ ((List.range 8).map fun ci => Cond.instantiable (mm_R ci) (mm_NN ci)) ++ ((List.range 8).map fun ci => Cond.methodLink (mm_R ci) (if ci < 6 then 3 else 1) Lib.objectInit) ++ [.instanceMethod Lib.objectInit, .code Lib.objectInit ⟨#[0xb1]⟩ 1 none, .arrayClass .int, .arrayClass .byte, .arrayClass .boolean]
set_option maxRecDepth 100000 in
theorem mc_in : ∀ w ∈ mc_wl, w ∈ mm_ws0 := mm_bulk _ [269, 81, 195, 218, 246, 87, 73, 750, 268, 80, 194, 217, 245, 86, 72, 749, 62, 57, 59, 60, 61, 58, 56, 63, 266, 78, 192, 215, 243, 84, 70, 747, 270, 82, 196, 219, 247, 88, 74, 751, 75, 76, 163, 162, 882] (by decide +kernel) (by decide +kernel)
theorem mc_code {ci : Nat} (h : ci < 8) : Cond.code (mc_y ci) (mc_c ci) 1 none ∈ mm_ws0 := mc_in _ (by
  refine List.mem_append_left _ (List.mem_append_left _ (List.mem_append_left _ (List.mem_append_left _ (List.mem_append_left _ (List.mem_map.mpr ⟨ci, List.mem_range.mpr h, rfl⟩))))))
theorem mc_inst {ci : Nat} (h : ci < 8) : Cond.instanceMethod (mc_y ci) ∈ mm_ws0 := mc_in _ (by
  refine List.mem_append_left _ (List.mem_append_left _ (List.mem_append_left _ (List.mem_append_left _ (List.mem_append_right _ (List.mem_map.mpr ⟨ci, List.mem_range.mpr h, rfl⟩))))))
theorem mc_ini {ci : Nat} (h : ci < 8) : Cond.initialized (mm_R ci) ∈ mm_ws0 := mc_in _ (by
  refine List.mem_append_left _ (List.mem_append_left _ (List.mem_append_left _ (List.mem_append_right _ (List.mem_map.mpr ⟨ci, List.mem_range.mpr h, rfl⟩)))))
theorem mc_able {ci : Nat} (h : ci < 8) : Cond.instantiable (mm_R ci) (mm_NN ci) ∈ mm_ws0 := mc_in _ (by
  refine List.mem_append_left _ (List.mem_append_left _ (List.mem_append_right _ (List.mem_map.mpr ⟨ci, List.mem_range.mpr h, rfl⟩))))
theorem mc_obj {ci : Nat} (h : ci < 8) : Cond.methodLink (mm_R ci) (if ci < 6 then 3 else 1) Lib.objectInit ∈ mm_ws0 := mc_in _ (by
  refine List.mem_append_left _ (List.mem_append_right _ (List.mem_map.mpr ⟨ci, List.mem_range.mpr h, rfl⟩)))
/-- what a constructor starts from, and what it leaves -/
def mc_B (D : va_G) (cA : FieldType → ClassId) (sz h0 ci : Nat) (fs : List Value) (U : State) : Prop := U.heap.size = sz ∧ va_P D vwCl [(h0, .inr (ci, fs))] U.heap ∧ va_K D vwCl (mm_tys cA) U ∧ mc_N U
def mc_E (D : va_G) (cA : FieldType → ClassId) (sh : List mm_H) (σ : mm_M) (A : Nat → Prop) (h0 : Nat) (_ : Unit) (t : State) : Prop := ∃ g : Nat → Nat, g 0 = h0 ∧ va_P D vwCl (mm_ws sh g cA σ) t.heap ∧ va_D A (mm_ws sh g cA σ)
def mc_A (h0 ci : Nat) (fs : List Value) (sz : Nat) : Nat → Prop := va_A [(h0, .inr (ci, fs))] sz
def mc_Met (l : Launch) (D : va_G) (cA : FieldType → ClassId) (ci : Nat) (fs : List Value) (sh : List mm_H) (σ : mm_M) (R : Room) (mc ms : Nat) : Prop := ∀ h0 sz : Nat, Met l (mc_y ci) (.code (mc_y ci) (mc_c ci) 1 none :: mm_ws0) R (va_Pc [.ref h0] (mc_B D cA sz h0 ci fs)) (va_Qv (fun _ : Unit => True) (mc_E D cA sh σ (mc_A h0 ci fs sz) h0) (mc_A h0 ci fs sz)) mc ms (mc_A h0 ci fs sz)
theorem mc_blind {D : va_G} {cA : FieldType → ClassId} {sz h0 ci : Nat} {fs : List Value} {as : List Value} : FrameBlind (va_Pc as (mc_B D cA sz h0 ci fs)) :=
  fun _ U _ _ q => ⟨q.1, q.2.1, q.2.2.1, va_K.moved (Vm.Alike.refl U.vm) q.2.2.2.1, q.2.2.2.2.same rfl⟩
theorem mc_D1 {A : Nat → Prop} {h : Nat} {e : va_E} (hA : A h) : va_D A [(h, e)] := by
  have key : ∀ (k : Nat) (q : Nat × va_E), ([(h, e)] : va_W)[k]? = some q → k = 0 ∧ q = (h, e) := by
    intro k q hq
    match k, hq with
    | 0, hq => cases hq; exact ⟨rfl, rfl⟩
    | k + 1, hq => simp at hq
  refine ⟨fun i j p q h1 h2 _ => ?_, fun k q h1 => ?_⟩
  · rw [(key i p h1).1, (key j q h2).1]
  · rw [(key k q h1).2]; exact hA
/-- behind a call that made a part's cells out of the last cell -/
theorem mc_join {A0 : Nat → Prop} {D : va_G} {cl : List vw_C} {ws w1 : va_W} {q : Nat} {e : va_E} {H H1 : Heap} (hP : va_P D cl (ws ++ [(q, e)]) H) (hD : va_D A0 (ws ++ [(q, e)])) (hk : ∀ x : Nat, x < H.size → ¬ va_A [(q, e)] H.size x → H1[x]? = H[x]?) (hF : ∀ x, va_A [(q, e)] H.size x → A0 x) (hP1 : va_P D cl w1 H1) (hD1 : va_D (va_A [(q, e)] H.size) w1) : va_P D cl (ws ++ w1) H1 ∧ va_D A0 (ws ++ w1) := by
  have hw : ∀ (k : Nat) (p : Nat × va_E), ws[k]? = some p → (ws ++ [(q, e)])[k]? = some p := fun k p h => by
    rw [List.getElem?_append_left (List.getElem?_eq_some_iff.mp h).1]; exact h
  have apart : ∀ (k : Nat) (p : Nat × va_E), ws[k]? = some p → p.1 < H.size ∧ ¬ va_A [(q, e)] H.size p.1 := by
    intro k p hp
    have hl := (hP k p (hw k p hp)).lt
    refine ⟨hl, fun z => ?_⟩
    rcases z with ⟨j, e2, z⟩ | z
    · have hj : j = 0 := by
        have h1 := (List.getElem?_eq_some_iff.mp z).1
        simp at h1
        exact h1
      subst hj
      cases z
      have h2 := hD.1 k ws.length p (p.1, e) (hw k p hp) (by simp) rfl
      have h3 := (List.getElem?_eq_some_iff.mp hp).1
      omega
    · omega
  refine ⟨va_P.app (fun k p hp => (hP k p (hw k p hp)).kept (hk p.1 (apart k p hp).1 (apart k p hp).2)) hP1, va_D.app ⟨fun i j p p2 h1 h2 h3 => hD.1 i j p p2 (hw i p h1) (hw j p2 h2) h3, fun k p hp => hD.2 k p (hw k p hp)⟩ (hD1.weaken (fun k p _ h => hF p.1 h)) (fun i j p p2 h1 h2 h3 => (apart i p h1).2 (by rw [h3]; exact hD1.2 j p2 h2))⟩
/-- what holds in a constructor's body, from its start on -/
def mc_F (D : va_G) (cA : FieldType → ClassId) (A : Nat → Prop) (ci : Nat) (p : Program) (s : State) (m : MethodId) (args : Array Value) (meth : Method) (c : Code) : Prop :=
  p.tables.exec = Jvm.exec ∧ c.code = mc_c ci ∧ meth.sig.returnType = none ∧ c.maxLocals = 1 ∧ s.vm.findClass (mm_R ci) = some m.cls ∧ (∀ w ∈ (Cond.code (mc_y ci) (mc_c ci) 1 none :: mm_ws0), w.before args s = true) ∧ meth.locks = false ∧ meth.name = "<init>" ∧ va_K D vwCl (mm_tys cA) s ∧ (∀ q : Nat, s.heap.size ≤ q → A q) ∧ mc_N s
theorem mc_begin {l : Launch} {D : va_G} {cA : FieldType → ClassId} {ci : Nat} {fs : List Value} {sh : List mm_H} {σ : mm_M} {R : Room} {mc ms : Nat} (hci : ci < 8) (hd0 : decode (mc_c ci) 0 = .ok (.aload_n 0, 1)) (hd1 : decode (mc_c ci) 1 = .ok (.invokespecial (if ci < 6 then 3 else 1), 3)) (hR1 : 1 ≤ R.frames) (hR2 : 12 ≤ R.locals)
    (kk : ∀ (h0 : Nat) (A : Nat → Prop) (p : Program) (e : Env) (s : State) (m : MethodId) (below : List Frame) (meth : Method) (c : Code) (ls : Array Slot), mc_F D cA A ci p s m #[.ref h0] meth c → lv_has ls 1 [(0, .ref h0)] → va_P D vwCl [(h0, .inr (ci, fs))] s.heap → va_D A [(h0, .inr (ci, fs))] → va_S A s.heap s.heap [] → W p l e R s m #[.ref h0] below meth c s.heap [] 0 0 (MQ below (va_Qv (fun _ : Unit => True) (mc_E D cA sh σ A h0) A) #[.ref h0] s mc ms A) (F0 m 4 ls [])) : mc_Met l D cA ci fs sh σ R mc ms := by
  intro h0 sz
  refine Met.ofW (cc := mc_c ci) (maxL := 1) (ret := none) ?_ rfl ?_
  · show plainName (mm_R ci) = true
    have e : ∀ ci, ci < 8 → plainName (mm_R ci) = true := by decide +kernel
    exact e ci hci
  intro p e s m args below meth c s₁ B hml hv
  obtain ⟨rfl, hsz, hP, hK, hN⟩ := hv
  have hts := atoms_spec (ws := Cond.code (mc_y ci) (mc_c ci) 1 none :: mm_ws0) B.pre
  have hw : ∀ w ∈ mm_ws0, w.before #[.ref h0] s = true := fun w q => hts w (List.mem_cons_of_mem _ q)
  have hown : s.vm.findClass (mm_R ci) = some m.cls := findClass_of_methodNamed B.named
  have hin : meth.name = "<init>" := (name_of_methodNamed B.named B.method).1
  subst hsz
  have hA : ∀ q : Nat, s.heap.size ≤ q → mc_A h0 ci fs s.heap.size q := fun q h => Or.inr h
  have hD : va_D (mc_A h0 ci fs s.heap.size) [(h0, .inr (ci, fs))] := mc_D1 (va_A.in (k := 0) (q := (h0, .inr (ci, fs))) rfl)
  have hl := lv_entry ([.ref h0]) (n := 1) (Nat.le_of_ble_eq_true rfl)
  rw [lg_entry_eq]
  generalize (lg_sl ([.ref h0]) ++ List.replicate (1 - (lg_sl ([.ref h0])).length) Slot.unset).toArray = ls at hl ⊢
  have hl : lv_has ls 1 [(0, .ref h0)] := hl
  refine lv_aload_n B.exec B.bytes hd0 rfl (lv_at hl 0 rfl) ?_
  refine W.objInit B.exec B.bytes hown (hw _ (mc_obj hci)) (hw _ (mc_in _ (List.mem_append_right _ (List.mem_of_getElem? (i := 0) rfl)))) (hw _ (mc_in _ (List.mem_append_right _ (List.mem_of_getElem? (i := 1) rfl)))) rfl (by rw [hml]; exact hl.1) rfl hd1 hR1 hR2 ?_
  exact kk h0 (mc_A h0 ci fs s.heap.size) p e s m below meth c ls ⟨B.exec, B.bytes, B.returns, hml, hown, hts, B.notSynchronized, hin, hK, hA, hN⟩ hl hP hD va_S.rf
/-- a kind of row: its place among the array classes, and what a new one holds -/
def mc_aok (aty : ArrayType) (t0 : Nat) : Prop := Cond.arrayClass (newarray.typeOf aty) ∈ mm_ws0 ∧ (∀ cA : FieldType → ClassId, (mm_tys cA)[t0]? = some (cA (newarray.typeOf aty), newarray.typeOf aty)) ∧ (∀ (U : State) (c : ClassId), va_RA U c (newarray.typeOf aty) → U.vm.findClass ("[" ++ (newarray.typeOf aty).toString) = some c) ∧ (∀ (N : Nat) (c : ClassId), vp_cell c (N, .inl (fun _ => 0)) = arrV c N (fun _ => defaultValue (newarray.typeOf aty)))
theorem mc_aI : mc_aok .int 0 := ⟨mc_in _ (List.mem_append_right _ (List.mem_of_getElem? (i := 2) rfl)), fun _ => rfl, fun _ _ h => h, fun _ _ => rfl⟩
theorem mc_aB : mc_aok .byte 1 := ⟨mc_in _ (List.mem_append_right _ (List.mem_of_getElem? (i := 3) rfl)), fun _ => rfl, fun _ _ h => h, fun _ _ => rfl⟩
theorem mc_aZ : mc_aok .boolean 2 := ⟨mc_in _ (List.mem_append_right _ (List.mem_of_getElem? (i := 4) rfl)), fun _ => rfl, fun _ _ h => h, fun _ _ => rfl⟩
/-- a final field that holds a reference -/
def mc_fok (ci idx k : Nat) : Prop := mm_find ci idx mm_ftab = some (ci, k) ∧ (mm_TT ci k).2.2.2 = true ∧ (mm_TT ci k).1 = mm_R ci ∧ ∀ q : Nat, narrow (mm_ty ci k) (.ref q) = .ref q ∧ fits (mm_ty ci k) (.ref q) = true
section MCC
variable {p : Program} {l : Launch} {e : Env} {R : Room} {s : State} {m : MethodId} {args : Array Value} {below : List Frame} {meth : Method} {c : Code} {H : Heap} {locs : List Loc} {cells slots : Nat} {Q : State → Prop} {pc : Nat} {ls : Array Slot} {D : va_G} {cA : FieldType → ClassId} {A : Nat → Prop} {ci h0 : Nat} {fs : List Value} {rest : va_W}
theorem mc_putr (F : mc_F D cA A ci p s m args meth c) (hci : ci < 8) {idx k q : Nat} {r : va_W} (hf : mc_fok ci idx k) (hk : k < fs.length) (hP : va_P D vwCl ((h0, .inr (ci, fs)) :: r) H) (hD : va_D A ((h0, .inr (ci, fs)) :: r)) (hS : va_S A s.heap H locs) (hd : decode (mc_c ci) pc = .ok (.putfield idx, 3))
    (kk : ∀ (H1 : Heap) (locs1 : List Loc), va_P D vwCl ((h0, .inr (ci, fs.set k (.ref q))) :: r) H1 → va_D A ((h0, .inr (ci, fs.set k (.ref q))) :: r) → va_S A s.heap H1 locs1 → W p l e R s m args below meth c H1 locs1 cells slots Q (F0 m (pc + 3) ls [])) : W p l e R s m args below meth c H locs cells slots Q (F0 m pc ls [.ref q, .ref h0]) := by
  obtain ⟨hx, hb, hr, hml, hown, hts, hlocks, hin, hK, hA, hN⟩ := F
  have hw : ∀ w ∈ mm_ws0, w.before args s = true := fun w q => hts w (List.mem_cons_of_mem _ q)
  obtain ⟨f0, f1, f2, f3⟩ := hf
  obtain ⟨g1, g2, g3⟩ := mm_f_facts f0
  exact va_putF (D := D) (ci := ci) (v := .ref q) hx hb hw (mm_u_in hci) (mm_ty ci) (mm_tyok hci) (mm_nm hci) hown hK hP hD hS 0 rfl (mm_cl hci) k g2 (hw _ g3) (fun x hx => by rw [f2] at hx ⊢; exact hx) f1 hin f2 (mm_tyok hci k g2) (f3 q).1 (f3 q).2 hk hd kk
theorem mc_core (F : mc_F D cA A ci p s m args meth c) (hci : ci < 8) {idx k t0 N : Nat} {n : Int32} {aty : ArrayType} (ha : mc_aok aty t0) (hf : mc_fok ci idx k) (hk : k < fs.length) (hn : ¬ n < 0) (hN : n.toNatClampNeg = N) (hbytes : N * componentBytes (newarray.typeOf aty) ≤ 536870912) (hcells : cells + 1 ≤ R.cells) (hslots : slots + N ≤ R.slots) (hP : va_P D vwCl ((h0, .inr (ci, fs)) :: rest) H) (hD : va_D A ((h0, .inr (ci, fs)) :: rest)) (hS : va_S A s.heap H locs) (hd2 : decode (mc_c ci) pc = .ok (.newarray aty, 2)) (hd3 : decode (mc_c ci) (pc + 2) = .ok (.putfield idx, 3))
    (kk : ∀ (q : Nat) (H1 : Heap) (locs1 : List Loc) (fs1 : List Value) (r1 : va_W), fs1 = fs.set k (.ref q) → r1 = rest ++ [(q, .inl (cA (newarray.typeOf aty), N, .inl (fun _ => 0)))] → va_P D vwCl ((h0, .inr (ci, fs1)) :: r1) H1 → va_D A ((h0, .inr (ci, fs1)) :: r1) → va_S A s.heap H1 locs1 → W p l e R s m args below meth c H1 locs1 (cells + 1) (slots + N) Q (F0 m (pc + 2 + 3) ls [])) : W p l e R s m args below meth c H locs cells slots Q (F0 m pc ls [.int n, .ref h0]) := by
  have F' := F
  obtain ⟨hx, hb, hr, hml, hown, hts, hlocks, hin, hK, hA, -⟩ := F
  obtain ⟨a1, a2, a3, a4⟩ := ha
  refine va_newa hx hb (hts _ (List.mem_cons_of_mem _ a1)) rfl hK hP hD hS hA (a4 N) hn hN hbytes hcells hslots hd2 (fun q c0 H1 hK1 hP1 hD1 hS1 => ?_)
  have e1 := a3 s c0 (hK1.2 3 (c0, newarray.typeOf aty) rfl).2
  have e2 := a3 s _ (hK.2 t0 _ (a2 cA)).2
  have e3 : c0 = cA (newarray.typeOf aty) := Option.some.inj (e1.symm.trans e2)
  subst e3
  exact mc_putr F' hci hf hk hP1 hD1 hS1 hd3 (fun H2 locs2 hP2 hD2 hS2 => kk q H2 locs2 _ _ rfl rfl hP2 hD2 hS2)
theorem mc_rowB (F : mc_F D cA A ci p s m args meth c) (hl : lv_has ls 1 [(0, .ref h0)]) (hci : ci < 8) {idx k t0 N : Nat} {n : Int} {aty : ArrayType} (hd0 : decode (mc_c ci) pc = .ok (.aload_n 0, 1)) (hd1 : decode (mc_c ci) (pc + 1) = .ok (.bipush n, 2)) (ha : mc_aok aty t0) (hf : mc_fok ci idx k) (hk : k < fs.length) (hn : ¬ (Int8.ofInt n).toInt32 < 0) (hN : ((Int8.ofInt n).toInt32).toNatClampNeg = N) (hbytes : N * componentBytes (newarray.typeOf aty) ≤ 536870912) (hcells : cells + 1 ≤ R.cells) (hslots : slots + N ≤ R.slots) (hP : va_P D vwCl ((h0, .inr (ci, fs)) :: rest) H) (hD : va_D A ((h0, .inr (ci, fs)) :: rest)) (hS : va_S A s.heap H locs) (hd2 : decode (mc_c ci) (pc + 1 + 2) = .ok (.newarray aty, 2)) (hd3 : decode (mc_c ci) (pc + 1 + 2 + 2) = .ok (.putfield idx, 3))
    (kk : ∀ (q : Nat) (H1 : Heap) (locs1 : List Loc) (fs1 : List Value) (r1 : va_W), fs1 = fs.set k (.ref q) → r1 = rest ++ [(q, .inl (cA (newarray.typeOf aty), N, .inl (fun _ => 0)))] → va_P D vwCl ((h0, .inr (ci, fs1)) :: r1) H1 → va_D A ((h0, .inr (ci, fs1)) :: r1) → va_S A s.heap H1 locs1 → W p l e R s m args below meth c H1 locs1 (cells + 1) (slots + N) Q (F0 m (pc + 1 + 2 + 2 + 3) ls [])) : W p l e R s m args below meth c H locs cells slots Q (F0 m pc ls []) := by
  refine lv_aload_n F.1 F.2.1 hd0 rfl (lv_at hl 0 rfl) ?_
  refine lv_bipush F.1 F.2.1 hd1 rfl ?_
  exact mc_core F hci ha hf hk hn hN hbytes hcells hslots hP hD hS hd2 hd3 kk
theorem mc_rowS (F : mc_F D cA A ci p s m args meth c) (hl : lv_has ls 1 [(0, .ref h0)]) (hci : ci < 8) {idx k t0 N : Nat} {n : Int} {aty : ArrayType} (hd0 : decode (mc_c ci) pc = .ok (.aload_n 0, 1)) (hd1 : decode (mc_c ci) (pc + 1) = .ok (.sipush n, 3)) (ha : mc_aok aty t0) (hf : mc_fok ci idx k) (hk : k < fs.length) (hn : ¬ (Int16.ofInt n).toInt32 < 0) (hN : ((Int16.ofInt n).toInt32).toNatClampNeg = N) (hbytes : N * componentBytes (newarray.typeOf aty) ≤ 536870912) (hcells : cells + 1 ≤ R.cells) (hslots : slots + N ≤ R.slots) (hP : va_P D vwCl ((h0, .inr (ci, fs)) :: rest) H) (hD : va_D A ((h0, .inr (ci, fs)) :: rest)) (hS : va_S A s.heap H locs) (hd2 : decode (mc_c ci) (pc + 1 + 3) = .ok (.newarray aty, 2)) (hd3 : decode (mc_c ci) (pc + 1 + 3 + 2) = .ok (.putfield idx, 3))
    (kk : ∀ (q : Nat) (H1 : Heap) (locs1 : List Loc) (fs1 : List Value) (r1 : va_W), fs1 = fs.set k (.ref q) → r1 = rest ++ [(q, .inl (cA (newarray.typeOf aty), N, .inl (fun _ => 0)))] → va_P D vwCl ((h0, .inr (ci, fs1)) :: r1) H1 → va_D A ((h0, .inr (ci, fs1)) :: r1) → va_S A s.heap H1 locs1 → W p l e R s m args below meth c H1 locs1 (cells + 1) (slots + N) Q (F0 m (pc + 1 + 3 + 2 + 3) ls [])) : W p l e R s m args below meth c H locs cells slots Q (F0 m pc ls []) := by
  refine lv_aload_n F.1 F.2.1 hd0 rfl (lv_at hl 0 rfl) ?_
  refine lv_sipush F.1 F.2.1 hd1 rfl ?_
  exact mc_core F hci ha hf hk hn hN hbytes hcells hslots hP hD hS hd2 hd3 kk
theorem mc_rowC (F : mc_F D cA A ci p s m args meth c) (hl : lv_has ls 1 [(0, .ref h0)]) (hci : ci < 8) {idx k t0 N : Nat} {n : Int} {aty : ArrayType} (hd0 : decode (mc_c ci) pc = .ok (.aload_n 0, 1)) (hd1 : decode (mc_c ci) (pc + 1) = .ok (.iconst n, 1)) (ha : mc_aok aty t0) (hf : mc_fok ci idx k) (hk : k < fs.length) (hn : ¬ Int32.ofInt n < 0) (hN : (Int32.ofInt n).toNatClampNeg = N) (hbytes : N * componentBytes (newarray.typeOf aty) ≤ 536870912) (hcells : cells + 1 ≤ R.cells) (hslots : slots + N ≤ R.slots) (hP : va_P D vwCl ((h0, .inr (ci, fs)) :: rest) H) (hD : va_D A ((h0, .inr (ci, fs)) :: rest)) (hS : va_S A s.heap H locs) (hd2 : decode (mc_c ci) (pc + 1 + 1) = .ok (.newarray aty, 2)) (hd3 : decode (mc_c ci) (pc + 1 + 1 + 2) = .ok (.putfield idx, 3))
    (kk : ∀ (q : Nat) (H1 : Heap) (locs1 : List Loc) (fs1 : List Value) (r1 : va_W), fs1 = fs.set k (.ref q) → r1 = rest ++ [(q, .inl (cA (newarray.typeOf aty), N, .inl (fun _ => 0)))] → va_P D vwCl ((h0, .inr (ci, fs1)) :: r1) H1 → va_D A ((h0, .inr (ci, fs1)) :: r1) → va_S A s.heap H1 locs1 → W p l e R s m args below meth c H1 locs1 (cells + 1) (slots + N) Q (F0 m (pc + 1 + 1 + 2 + 3) ls [])) : W p l e R s m args below meth c H locs cells slots Q (F0 m pc ls []) := by
  refine lv_aload_n F.1 F.2.1 hd0 rfl (lv_at hl 0 rfl) ?_
  refine lv_iconst F.1 F.2.1 hd1 rfl ?_
  exact mc_core F hci ha hf hk hn hN hbytes hcells hslots hP hD hS hd2 hd3 kk
theorem mc_int (F : mc_F D cA A ci p s m args meth c) (hl : lv_has ls 1 [(0, .ref h0)]) (hci : ci < 8) {idx k : Nat} {n : Int} (v : Int32) (hv : Int32.ofInt n = v) (hd0 : decode (mc_c ci) pc = .ok (.aload_n 0, 1)) (hd1 : decode (mc_c ci) (pc + 1) = .ok (.iconst n, 1)) (hd2 : decode (mc_c ci) (pc + 1 + 1) = .ok (.putfield idx, 3)) (hf : mm_find ci idx mm_ftab = some (ci, k)) (hfin : (mm_TT ci k).2.2.2 = false) (hdecl : (mm_TT ci k).1 = mm_R ci) (hty : mm_ty ci k = .int) (hk : k < fs.length) (hP : va_P D vwCl ((h0, .inr (ci, fs)) :: rest) H) (hD : va_D A ((h0, .inr (ci, fs)) :: rest)) (hS : va_S A s.heap H locs)
    (kk : ∀ (H1 : Heap) (locs1 : List Loc) (fs1 : List Value), fs1 = fs.set k (.int v) → va_P D vwCl ((h0, .inr (ci, fs1)) :: rest) H1 → va_D A ((h0, .inr (ci, fs1)) :: rest) → va_S A s.heap H1 locs1 → W p l e R s m args below meth c H1 locs1 cells slots Q (F0 m (pc + 1 + 1 + 3) ls [])) : W p l e R s m args below meth c H locs cells slots Q (F0 m pc ls []) := by
  obtain ⟨hx, hb, hr, hml, hown, hts, hlocks, hin, hK, hA, hN⟩ := F
  have hw : ∀ w ∈ mm_ws0, w.before args s = true := fun w q => hts w (List.mem_cons_of_mem _ q)
  obtain ⟨g1, g2, g3⟩ := mm_f_facts hf
  refine lv_aload_n hx hb hd0 rfl (lv_at hl 0 rfl) ?_
  refine lv_iconst hx hb hd1 hv ?_
  exact va_put (D := D) (ci := ci) (v := .int v) (ty := .int) hx hb hw (mm_u_in hci) (mm_ty ci) (mm_tyok hci) (mm_nm hci) hown hK hP hD hS 0 rfl (mm_cl hci) k g2 (hw _ g3) (fun x hx => by rw [hdecl] at hx ⊢; exact hx) hfin (by rw [← hty]; exact mm_tyok hci k g2) rfl rfl hk hd2 (fun H2 locs2 hP2 hD2 hS2 => kk H2 locs2 _ rfl hP2 hD2 hS2)
theorem mc_sub (F : mc_F D cA A ci p s m args meth c) (hl : lv_has ls 1 [(0, .ref h0)]) (hci : ci < 8) {idx idxn idxc k cj mcj msj : Nat} {fsj : List Value} {shj : List mm_H} {σj : mm_M} {Rj : Room} (hM : mc_Met l D cA cj fsj shj σj Rj mcj msj) (hcj : cj < 8) (hfs : ∀ j, j < mm_NN cj → defaultValue (mm_ty cj j) = vp_V fsj j) (hn : (ci, idxc, cj) ∈ mc_ntab) (hcl : Cond.classLink (mm_R ci) idxn (mm_R cj) ∈ mm_ws0) (hrc : Rj.cells = mcj) (hrs : Rj.slots = msj) (hR : Rj.frames + 1 ≤ R.frames ∧ 8 + (1 + 11) + Rj.locals ≤ R.locals)
    (hd0 : decode (mc_c ci) pc = .ok (.aload_n 0, 1)) (hd1 : decode (mc_c ci) (pc + 1) = .ok (.new idxn, 3)) (hd2 : decode (mc_c ci) (pc + 1 + 3) = .ok (.dup, 1)) (hd3 : decode (mc_c ci) (pc + 1 + 3 + 1) = .ok (.invokespecial idxc, 3)) (hd4 : decode (mc_c ci) (pc + 1 + 3 + 1 + 3) = .ok (.putfield idx, 3)) (hf : mc_fok ci idx k) (hk : k < fs.length) (hcells : cells + 1 + mcj ≤ R.cells) (hslots : slots + mm_NN cj + msj ≤ R.slots) (hP : va_P D vwCl ((h0, .inr (ci, fs)) :: rest) H) (hD : va_D A ((h0, .inr (ci, fs)) :: rest)) (hS : va_S A s.heap H locs)
    (kk : ∀ (g : Nat → Nat) (H1 : Heap) (locs1 : List Loc) (fs1 : List Value) (r1 : va_W), fs1 = fs.set k (.ref (g 0)) → r1 = rest ++ mm_ws shj g cA σj → va_P D vwCl ((h0, .inr (ci, fs1)) :: r1) H1 → va_D A ((h0, .inr (ci, fs1)) :: r1) → va_S A s.heap H1 locs1 → W p l e R s m args below meth c H1 locs1 (cells + 1 + mcj) (slots + mm_NN cj + msj) Q (F0 m (pc + 1 + 3 + 1 + 3 + 3) ls [])) : W p l e R s m args below meth c H locs cells slots Q (F0 m pc ls []) := by
  have F' := F
  obtain ⟨hx, hb, hr, hml, hown, hts, hlocks, hin, hK, hA, hN⟩ := F
  have hw : ∀ w ∈ mm_ws0, w.before args s = true := fun w q => hts w (List.mem_cons_of_mem _ q)
  refine lv_aload_n hx hb hd0 rfl (lv_at hl 0 rfl) ?_
  refine va_new (ci := cj) (fs := fsj) hx hb hw (mm_u_in hcj) (mm_ty cj) (mm_tyok hcj) hown (hw _ hcl) (hw _ (mc_able hcj)) (hw _ (mc_ini hcj)) hK hP hD hS hA (mm_cl hcj) hfs (by omega) (by omega) hd1 (fun q H hP hD hS => ?_)
  refine lv_dup hx hb hd2 rfl ?_
  have hF : ∀ x, va_A [(q, .inr (cj, fsj))] H.size x → A x := fun x hx => by
    rcases hx with ⟨j, e2, z⟩ | z
    · have hj : j = 0 := by
        have h1 := (List.getElem?_eq_some_iff.mp z).1
        simp at h1
        exact h1
      subst hj
      cases z
      exact hD.2 _ (q, .inr (cj, fsj)) (List.getElem?_concat_length (l := (h0, .inr (ci, fs)) :: rest))
    · exact hA x (Nat.le_trans hS.1 z)
  have hPq : va_P D vwCl [(q, .inr (cj, fsj))] H := fun k x hx => by
    match k, hx with
    | 0, hx => cases hx; exact hP _ _ (List.getElem?_concat_length (l := (h0, .inr (ci, fs)) :: rest))
    | k + 1, hx => simp at hx
  have hcls : ∀ cj, cj < 8 → mm_R cj ≠ "java/lang/invoke/MethodHandle" ∧ mm_R cj ≠ "java/lang/invoke/VarHandle" := by decide +kernel
  refine va_callv (va_runIN (own := mm_R ci) (host := RX6) (As := []) (rest := [.ref q, .ref h0]) ⟨hx, hb, hml, hown, hts⟩ (hM q H.size) ⟨va_cnB 0 hts (mm_w_good (mc_code hcj)) rfl hrc hrs (hN _ hn) (hw _ (mc_ini hcj)) ⟨(hcls cj hcj).1, (hcls cj hcj).2, by show (parseMethodDescriptor "()V").map _ = some 0; decide +kernel⟩ hR, rfl, hw _ (mc_inst hcj)⟩ ⟨mc_blind, fun U hU hW => ⟨rfl, by rw [hU], by rw [hU]; exact hPq, va_K.moved hW.alike hK, hN.warm hW⟩⟩ rfl rfl hl.1 rfl (lv_room (Nat.le_of_ble_eq_true rfl)) hd3 ⟨hcells, hslots⟩) hS (fun q _ h => hF q h) hF (fun u t H1 locs ht hvm hw hB hz1 hk1 hS => ?_)
  obtain ⟨g, hg, hP1, hD1⟩ := hB
  rw [ht] at hP1
  obtain ⟨hP, hD⟩ := mc_join hP hD hk1 hF hP1 hD1
  rw [← hg]
  exact mc_putr F' hci hf hk hP hD hS hd4 (fun H2 locs2 hP2 hD2 hS2 => kk g H2 locs2 _ _ rfl rfl hP2 hD2 hS2)
theorem mc_ret {σ : mm_M} {sh : List mm_H} {mc ms : Nat} (F : mc_F D cA A ci p s m args meth c) (hd : decode (mc_c ci) pc = .ok (.return_, 1)) (g : Nat → Nat) (hg : g 0 = h0) {w : va_W} (hP : va_P D vwCl w H) (hD : va_D A w) (hw : w = mm_ws sh g cA σ) (hS : va_S A s.heap H locs) : W p l e R s m args below meth c H locs mc ms (MQ below (va_Qv (fun _ : Unit => True) (mc_E D cA sh σ A h0) A) args s mc ms A) (F0 m pc ls []) := by
  obtain ⟨hx, hb, hr, hml, hown, hts, hlocks, hin, hK, hA, hN⟩ := F
  subst hw
  exact W.vret hx hb hr (fun t ht hW => ⟨⟨(), rfl, trivial, g, hg, by rw [ht]; exact hP, hD⟩, hS.F ht⟩) hS.2.2 hd hlocks
end MCC
