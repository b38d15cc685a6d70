/-! EVERY STEP of the small machine is a step of the JVM; a method's run is its contract -/
/-- what the JDK's two text methods answer, of the texts that the class has -/
def mm_Len (l : Launch) (ad adV : Nat → Nat) (A : Nat → Prop) : Prop := ∀ (a : Nat) (b : List Int32), mm_str a = some b → Met l yJ0_length_8abf5 (.code yJ0_length_8abf5 cJ0_length_8abf5 1 (some .int) :: mm_ws0) mm_rmJ (va_Pc [.ref (ad a)] (fun U => mm_S ad adV A U U.heap)) (va_Qi (fun r (_ : Unit) => r = nI b.length) (fun _ _ => True) (fun _ => False)) 0 0 (fun _ => False)
def mm_Chr (l : Launch) (ad adV : Nat → Nat) (A : Nat → Prop) : Prop := ∀ (a : Nat) (b : List Int32) (i : Int32), mm_str a = some b → vp_in i b.length → Met l yJ0_charAt_5068e (.code yJ0_charAt_5068e cJ0_charAt_5068e 2 (some .char) :: mm_ws0) mm_rmJ (va_Pc [.ref (ad a), .int i] (fun U => mm_S ad adV A U U.heap)) (va_Qi (fun r (_ : Unit) => r = b.getD i.toNatClampNeg 0) (fun _ _ => True) (fun _ => False)) 0 0 (fun _ => False)
def mm_IH (l : Launch) (sh : List mm_H) (ad adV : Nat → Nat) (cA : FieldType → ClassId) (D : va_G) (A : Nat → Prop) (d : Nat) : Prop :=
  ∀ (j : Nat) (as : List Value) (σ : mm_M) (P : mm_O), mm_run sh d j as σ P → j < mm_mtab.length → Met l (mm_mt j).2.1 (mm_w (mm_mt j)) (mm_rm d) (va_Pc (as.map (mm_re ad)) (mm_B sh ad adV cA D A σ)) (mm_Q ad (mm_B sh ad adV cA D A) A P) 0 0 A
/-- what holds in a method's body, from its start on -/
def mm_Fix (ad adV : Nat → Nat) (cA : FieldType → ClassId) (D : va_G) (A : Nat → Prop) (T : mm_T) (n : Nat) (p : Program) (s : State) (m : MethodId) (args : Array Value) (meth : Method) (c : Code) : Prop :=
  p.tables.exec = Jvm.exec ∧ c.code = T.2.2.1 ∧ meth.sig.returnType = T.2.2.2.2.1 ∧ c.maxLocals = n ∧ s.vm.findClass (mm_R T.1) = some m.cls ∧ (∀ w ∈ mm_w T, w.before args s = true) ∧ meth.locks = false ∧ va_K D vwCl (mm_tys cA) s ∧ mm_N s ∧ mm_S ad adV A s s.heap
def mm_X (sh : List mm_H) (ad adV : Nat → Nat) (cA : FieldType → ClassId) (D : va_G) (A : Nat → Prop) (d n : Nat) (LL : List (Nat × Int64)) (P : mm_O) (p : Program) (l : Launch) (e : Env) (s : State) (m : MethodId) (args : Array Value) (below : List Frame) (meth : Method) (c : Code) : mm_K := fun pc L st σ =>
  ∀ (H : Heap) (locs : List Loc) (ls : Array Slot), va_P D vwCl (mm_ws sh ad cA σ) H → va_S A s.heap H locs → mm_rel ad L LL ls n → W p l e (mm_rm (d + 1)) s m args below meth c H locs 0 0 (MQ below (mm_Q ad (mm_B sh ad adV cA D A) A P) args s 0 0 A) (F0 m pc ls (st.map (mm_re ad)))
theorem mm_B_of {sh : List mm_H} {ad adV : Nat → Nat} {cA : FieldType → ClassId} {D : va_G} {A : Nat → Prop} {σ : mm_M} {s U : State} {H : Heap} {locs : List Loc} (hP : va_P D vwCl (mm_ws sh ad cA σ) H) (hS : va_S A s.heap H locs) (hK : va_K D vwCl (mm_tys cA) s) (hN : mm_N s) (hZ : mm_S ad adV A s s.heap) (hD : va_D A (mm_ws sh ad cA σ)) (hU : U.heap = H) (hW : s.WarmedH U.vm) : mm_B sh ad adV cA D A σ U :=
  ⟨by rw [hU]; exact hP, va_K.moved hW.alike hK, hD, hN.warm hW, by rw [hU]; exact (hZ.kept hS.2.1).warm hW⟩
theorem mm_blind {sh : List mm_H} {ad adV : Nat → Nat} {cA : FieldType → ClassId} {D : va_G} {A : Nat → Prop} {σ : mm_M} {as : List Value} : FrameBlind (va_Pc as (mm_B sh ad adV cA D A σ)) :=
  fun _ U _ _ q => ⟨q.1, q.2.1, va_K.moved (Vm.Alike.refl U.vm) q.2.2.1, q.2.2.2.1, q.2.2.2.2.1.same rfl, q.2.2.2.2.2.same rfl⟩
theorem mm_blindS {ad adV : Nat → Nat} {A : Nat → Prop} {as : List Value} : FrameBlind (va_Pc as (fun U => mm_S ad adV A U U.heap)) :=
  fun _ _ _ _ q => ⟨q.1, q.2.same rfl⟩
section MC
variable {p : Program} {l : Launch} {e : Env} {R : Room} {s : State} {m : MethodId} {args : Array Value} {below : List Frame} {meth : Method} {c : Code} {H : Heap} {locs : List Loc} {Q : State → Prop} {pc : Nat} {ls : Array Slot} {rest st0 : List Value} {a : Array Value} {sh : List mm_H} {ad adV : Nat → Nat} {cA : FieldType → ClassId} {D : va_G} {A : Nat → Prop} {P : mm_O}
theorem mm_callx (hr : va_Run p l e R s m args below meth c H locs 0 0 0 0 (F0 m pc ls st0) rest (mm_Q ad (mm_B sh ad adV cA D A) A P a) A) (hS : va_S A s.heap H locs)
    (kk : ∀ (v : Option Value) (σ : mm_M) (H1 : Heap) (locs1 : List Loc), P v σ → va_P D vwCl (mm_ws sh ad cA σ) H1 → va_S A s.heap H1 locs1 → W p l e R s m args below meth c H1 locs1 0 0 Q (F0 m (pc + 3) ls ((v.map (mm_re ad)).toList ++ rest))) : W p l e R s m args below meth c H locs 0 0 Q (F0 m pc ls st0) := by
  intro T hT X
  obtain ⟨v, st₀, t, T', L, h0, X', hL, e1, e2, ⟨⟨r, u, hv, hp, hb⟩, hz, hk⟩, st⟩ := hr T hT X
  cases hv
  rw [h0] at hz hk
  obtain ⟨t2, a1, b1⟩ := kk r u T'.heap (locs ++ L) hp (by rw [e1]; exact hb.1)
    ⟨Nat.le_trans hS.1 (by rw [e1]; exact hz), fun q h1 h2 => by rw [e1, hk q (Nat.lt_of_lt_of_le h1 hS.1) h2]; exact hS.2.1 q h1 h2, fun q hq => by
      rcases List.mem_append.mp hq with h | h
      · exact hS.2.2 q h
      · exact hL q h⟩ T' rfl X'
  exact ⟨t2, st t2 a1, b1⟩
end MC
theorem mm_back {ad : Nat → Nat} {v : Option Value} {r : List Value} : (v.map (mm_re ad)).toList ++ r.map (mm_re ad) = (v.toList ++ r).map (mm_re ad) := by cases v <;> simp
theorem mm_cat {ad : Nat → Nat} {r : List Value} : (r.map (mm_re ad)).map Value.category = r.map Value.category := by
  rw [List.map_map]
  congr 1
  funext v
  cases v <;> rfl
theorem mm_r8_e {ad : Nat → Nat} {r : List Value} (h : mm_r8 r = true) : ((r.map (mm_re ad)).map fun v => v.category).sum ≤ 8 := by
  have e := Nat.le_of_ble_eq_true h
  have e2 := mm_cat (ad := ad) (r := r)
  rw [← e2] at e
  exact e
theorem mm_narrow {ty : FieldType} {x : Int32} {A : Prop} (h : mm_nar ty x A) : (ty = .int ∨ ty = .boolean) ∧ narrow ty (.int x) = .int x ∧ fits ty (.int x) = true ∧ A := by
  unfold mm_nar at h
  split at h
  · exact ⟨Or.inl rfl, rfl, rfl, h⟩
  · obtain ⟨h1, h2⟩ := h
    refine ⟨Or.inr rfl, ?_, ?_, h2⟩ <;> rcases h1 with rfl | rfl <;> rfl
  · exact h.elim
section MCL
variable {p : Program} {l : Launch} {e : Env} {s : State} {m : MethodId} {args : Array Value} {below : List Frame} {meth : Method} {c : Code} {sh : List mm_H} {ad adV : Nat → Nat} {cA : FieldType → ClassId} {D : va_G} {A : Nat → Prop} {P : mm_O} {d n : Nat} {T : mm_T} {LL : List (Nat × Int64)}
theorem mm_static_c {j idx pc : Nat} {L st : List Value} {σ : mm_M} {H : Heap} {locs : List Loc} {ls : Array Slot} (hI : mm_IH l sh ad adV cA D A d) (F : mm_Fix ad adV cA D A T n p s m args meth c) (hD : va_D A (mm_ws sh ad cA σ)) (hT : T ∈ mm_mtab) (hP : va_P D vwCl (mm_ws sh ad cA σ) H) (hS : va_S A s.heap H locs) (hl : mm_rel ad L LL ls n)
    (hlink : (Cond.methodLink (mm_R T.1) idx (mm_mt j).2.1).before args s = true ∨ va_Nw (.methodLinkNest (mm_R T.1) idx (mm_mt j).2.1 RX6) s) (hj : j < mm_mtab.length) (hst : (mm_mt j).2.2.2.2.2.1 = true) (hd : decode T.2.2.1 pc = .ok (.invokestatic idx, 3)) (h : mm_call (mm_run sh d) j st σ fun st σ => mm_X sh ad adV cA D A d n LL P p l e s m args below meth c (pc + 3) L st σ) : W p l e (mm_rm (d + 1)) s m args below meth c H locs 0 0 (MQ below (mm_Q ad (mm_B sh ad adV cA D A) A P) args s 0 0 A) (F0 m pc ls (st.map (mm_re ad))) := by
  obtain ⟨hx, hb, hr, hml, hown, hts, hlocks, hK, hN, hZ⟩ := F
  obtain ⟨q, h1, h⟩ := mm_som_e h
  obtain ⟨h8, h⟩ := mm_g_e h
  obtain ⟨e1, e2⟩ := mm_pops_e h1
  obtain ⟨as, r⟩ := q
  dsimp only at h8 h e1 e2
  have hT2 := mm_mt_mem hj
  obtain ⟨p1, p2, p3, p4, p5, p6, p7⟩ := mm_plain hT2
  have hM := hI j as σ _ h hj
  have hwc := mm_code_in hT2
  have hG : GoodIn (mm_w T) (mm_w (mm_mt j)) := mm_w_good hwc
  have hini : (Cond.initialized (mm_mt j).2.1.cls).before args s = true := hts _ (List.mem_cons_of_mem _ p3)
  have hstat : (Cond.static (mm_mt j).2.1).before args s = true := hts _ (List.mem_cons_of_mem _ (mm_stat_in hT2 hst))
  have hroom : (mm_rm d).frames + 1 ≤ (mm_rm (d + 1)).frames ∧ 8 + ((mm_mt j).2.2.2.1 + 11) + (mm_rm d).locals ≤ (mm_rm (d + 1)).locals := ⟨by show d + 8 + 1 ≤ d + 1 + 8; omega, by show 8 + ((mm_mt j).2.2.2.1 + 11) + 64 * (d + 8) ≤ 64 * (d + 1 + 8); omega⟩
  have hpre : PreS s H (va_Pc (as.map (mm_re ad)) (mm_B sh ad adV cA D A σ)) (as.map (mm_re ad)) := ⟨mm_blind, fun U hU hW => ⟨rfl, mm_B_of hP hS hK hN hZ hD hU hW⟩⟩
  have hstack : (F0 m pc ls (st.map (mm_re ad))).stack = (as.map (mm_re ad)).reverse ++ r.map (mm_re ad) := by
    show st.map (mm_re ad) = _
    rw [e1, List.map_append, List.map_reverse]
  have hW8 := lv_room (m := m) (pc := pc) (ls := ls) (rest := st.map (mm_re ad)) (mm_r8_e (ad := ad) h8)
  have hn : (as.map (mm_re ad)).length = (mm_mt j).2.2.2.2.2.2 := by rw [List.length_map]; exact e2
  have go : ∀ hrun : va_Run p l e (mm_rm (d + 1)) s m args below meth c H locs 0 0 0 0 (F0 m pc ls (st.map (mm_re ad))) (r.map (mm_re ad)) (mm_Q ad (mm_B sh ad adV cA D A) A (fun v σ' => mm_X sh ad adV cA D A d n LL P p l e s m args below meth c (pc + 3) L (v.toList ++ r) σ') (as.map (mm_re ad)).toArray) A, W p l e (mm_rm (d + 1)) s m args below meth c H locs 0 0 (MQ below (mm_Q ad (mm_B sh ad adV cA D A) A P) args s 0 0 A) (F0 m pc ls (st.map (mm_re ad))) := fun hrun =>
    mm_callx hrun hS fun v σ' H1 locs1 hp hP1 hS1 => by rw [mm_back]; exact hp H1 locs1 ls hP1 hS1 hl
  rcases hlink with hlink | hlink
  · exact go (va_runS (own := mm_R T.1) ⟨hx, hb, hml, hown, hts⟩ hM ⟨callB_of _ hts hG rfl rfl rfl hini hlink ⟨p4, p5, p6⟩ hroom, hstat⟩ hpre rfl hn (hl.2.1.1) hstack hW8 hd ⟨Nat.le_refl 0, Nat.le_refl 0⟩)
  · exact go (va_runSN (own := mm_R T.1) ⟨hx, hb, hml, hown, hts⟩ hM ⟨va_cnB _ hts hG rfl rfl rfl hlink hini ⟨p4, p5, p6⟩ hroom, hstat, trivial⟩ hpre rfl hn (hl.2.1.1) hstack hW8 hd ⟨Nat.le_refl 0, Nat.le_refl 0⟩)
theorem mm_virt_c {j idx pc : Nat} {L st : List Value} {σ : mm_M} {H : Heap} {locs : List Loc} {ls : Array Slot} (hI : mm_IH l sh ad adV cA D A d) (F : mm_Fix ad adV cA D A T n p s m args meth c) (hD : va_D A (mm_ws sh ad cA σ)) (hT : T ∈ mm_mtab) (hP : va_P D vwCl (mm_ws sh ad cA σ) H) (hS : va_S A s.heap H locs) (hl : mm_rel ad L LL ls n)
    (hlink : (Cond.methodLink (mm_R T.1) idx (mm_mt j).2.1).before args s = true) (hj : j < mm_mtab.length) (hst : (mm_mt j).2.2.2.2.2.1 = false) (h8c : (mm_mt j).1 < 8) (hd : decode T.2.2.1 pc = .ok (.invokevirtual idx, 3)) (h : mm_callV sh (mm_run sh d) j st σ fun st σ => mm_X sh ad adV cA D A d n LL P p l e s m args below meth c (pc + 3) L st σ) : W p l e (mm_rm (d + 1)) s m args below meth c H locs 0 0 (MQ below (mm_Q ad (mm_B sh ad adV cA D A) A P) args s 0 0 A) (F0 m pc ls (st.map (mm_re ad))) := by
  obtain ⟨hx, hb, hr, hml, hown, hts, hlocks, hK, hN, hZ⟩ := F
  obtain ⟨q, h1, k1⟩ := mm_som_e h
  obtain ⟨a, r, e3, k2⟩ := mm_pR_e k1
  obtain ⟨o, h2, k3⟩ := mm_som_e k2
  clear h k1 k2
  obtain ⟨e1, e2⟩ := mm_pops_e h1
  obtain ⟨as, r1⟩ := q
  cases o with
  | inl _ => exact k3.elim
  | inr o =>
    obtain ⟨ci, fks⟩ := o
    obtain ⟨h8, h⟩ := mm_g_e k3
    clear k3
    dsimp only at h8 h e1 e2 e3
    subst e3
    rw [Bool.and_eq_true] at h8
    obtain ⟨hci, h8⟩ := h8
    have hci := eq_of_beq hci
    subst hci
    have hT2 := mm_mt_mem hj
    obtain ⟨p1, p2, p3, p4, p5, p6, p7⟩ := mm_plain hT2
    obtain ⟨w1, w2⟩ := mm_inst_in hT2 hst
    have hM := hI j (.ref a :: as) σ _ h hj
    have hwc := mm_code_in hT2
    have hG : GoodIn (mm_w T) (mm_w (mm_mt j)) := mm_w_good hwc
    have hini : (Cond.initialized (mm_mt j).2.1.cls).before args s = true := hts _ (List.mem_cons_of_mem _ p3)
    have hinst : (Cond.instanceMethod (mm_mt j).2.1).before args s = true := hts _ (List.mem_cons_of_mem _ w1)
    have hsel : (Cond.selects (mm_mt j).2.1.cls (mm_mt j).2.1 (mm_mt j).2.1).before args s = true := hts _ (List.mem_cons_of_mem _ w2)
    have hroom : (mm_rm d).frames + 1 ≤ (mm_rm (d + 1)).frames ∧ 8 + ((mm_mt j).2.2.2.1 + 11) + (mm_rm d).locals ≤ (mm_rm (d + 1)).locals := ⟨by show d + 8 + 1 ≤ d + 1 + 8; omega, by show 8 + ((mm_mt j).2.2.2.1 + 11) + 64 * (d + 8) ≤ 64 * (d + 1 + 8); omega⟩
    have hrecv := va_recv hK hP (mm_cl h8c) (mm_ws_get h2)
    have hpre : PreV s H (mm_mt j).2.1.cls (ad a) (va_Pc ((Value.ref a :: as).map (mm_re ad)) (mm_B sh ad adV cA D A σ)) (as.map (mm_re ad)) := ⟨mm_blind, by rw [p2]; exact hrecv, fun U hU hW => ⟨rfl, mm_B_of hP hS hK hN hZ hD hU hW⟩⟩
    have hstack : (F0 m pc ls (st.map (mm_re ad))).stack = (as.map (mm_re ad)).reverse ++ .ref (ad a) :: r.map (mm_re ad) := by
      show st.map (mm_re ad) = _
      rw [e1, List.map_append, List.map_reverse]
      rfl
    have hW8 := lv_room (m := m) (pc := pc) (ls := ls) (rest := st.map (mm_re ad)) (mm_r8_e (ad := ad) h8)
    have hn : (as.map (mm_re ad)).length = (mm_mt j).2.2.2.2.2.2 := by rw [List.length_map]; exact e2
    refine mm_callx (va_runV (own := mm_R T.1) ⟨hx, hb, hml, hown, hts⟩ hM ⟨callB_of _ hts hG rfl rfl rfl hini hlink ⟨p4, p5, p6⟩ hroom, hinst, hsel⟩ hpre rfl hn (hl.2.1.1) hstack hW8 hd ⟨Nat.le_refl 0, Nat.le_refl 0⟩) hS fun v σ' H1 locs1 hp hP1 hS1 => ?_
    rw [mm_back]
    exact hp H1 locs1 ls hP1 hS1 hl
end MCL
theorem mm_c8 {T : mm_T} (h : T ∈ mm_mtab) : T.1 < 8 := by
  have e : mm_mtab.all (fun T => Nat.blt T.1 8) = true := by decide +kernel
  exact Nat.le_of_ble_eq_true (List.all_eq_true.mp e T h)
