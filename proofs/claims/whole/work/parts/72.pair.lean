/-! A CALL ON BOTH SIDES, in the law -/
def ml_A (s : State) : Nat → Prop := fun q => s.heap.size ≤ q
theorem mm_S.narrow {ad adV : Nat → Nat} {A B : Nat → Prop} {U : State} {H : Heap} (h : mm_S ad adV A U H) (hAB : ∀ q, B q → A q) : mm_S ad adV B U H :=
  ⟨h.1.narrow hAB, h.2.1, h.2.2.1.narrow hAB, h.2.2.2.narrow hAB⟩
theorem ml_good {T : mm_T} (h : T ∈ mm_mtab) : GoodIn lw_tbl (mm_w T) := by
  intro w hw
  rcases List.mem_cons.mp hw with rfl | hw
  · exact ⟨mm_ws0_in (mm_code_in h), good_of_word (mm_ws0_good (mm_code_in h))⟩
  · exact ⟨mm_ws0_in hw, good_of_word (mm_ws0_good hw)⟩
section ML
variable {p : Program} {l : Launch} {e : Env} {s : State} {m : MethodId} {below : List Frame} {meth : Method} {c : Code} {H : Heap} {locs : List Loc} {cells slots : Nat} {Q : State → Prop} {pc : Nat} {ls : Array Slot} {D : va_G} {cA : FieldType → ClassId} {b L : Nat} {xs : Nat → Int32} {adV : Nat → Nat}
theorem ml_call {sh : List mm_H} {ad : Nat → Nat} {AX : Nat → Prop} {j idx : Nat} {as rest st : List Value} {r : Int32} {σ σ' : mm_M} (C0 : lw_At p s m meth c b L xs) (hK : va_K D vwCl (mm_tys cA) s) (hN : mm_N s) (hZ : mm_S ad adV (ml_A s) s s.heap) (hDX : va_D AX (mm_ws sh ad cA σ)) (hAX : ∀ q, AX q → ml_A s q) (hP : va_P D vwCl (mm_ws sh ad cA σ) H) (hS : va_S (ml_A s) s.heap H locs)
    (hrun : ∀ P : mm_O, mm_run sh 40 j (.ref 0 :: as) σ P = P (some (.int r)) σ') (hj : j < mm_mtab.length) (hst : (mm_mt j).2.2.2.2.2.1 = false) (hn : as.length = (mm_mt j).2.2.2.2.2.2) (hsh : ∃ fks, sh[0]? = some (.inr ((mm_mt j).1, fks))) (hlink : Cond.methodLink R_law idx (mm_mt j).2.1 ∈ lw_tbl) (hd : decode code pc = .ok (.invokevirtual idx, 3)) (hstk : st = (as.map (mm_re ad)).reverse ++ .ref (ad 0) :: rest) (h8 : (rest.map fun v => v.category).sum ≤ 8) (hsz : ls.size = 4) (hcells : cells ≤ 600000) (hslots : slots ≤ 7302249)
    (kk : ∀ (H1 : Heap) (locs1 : List Loc), va_P D vwCl (mm_ws sh ad cA σ') H1 → H.size ≤ H1.size → (∀ q : Nat, q < H.size → ¬ AX q → H1[q]? = H[q]?) → va_S (ml_A s) s.heap H1 locs1 → W p l e room_1 s m #[Value.ref b] below meth c H1 locs1 cells slots Q (F0 m (pc + 3) ls (.int r :: rest))) : W p l e room_1 s m #[Value.ref b] below meth c H locs cells slots Q (F0 m pc ls st) := by
  obtain ⟨hx, hb, hr, hml, hown, hts, hX, hbl, hlocks, hgv⟩ := C0
  have hT2 := mm_mt_mem hj
  obtain ⟨p1, p2, p3, p4, p5, p6, p7⟩ := mm_plain hT2
  obtain ⟨w1, w2⟩ := mm_inst_in hT2 hst
  obtain ⟨fks, h2⟩ := hsh
  have hM := mm_sound (sh := sh) (cA := cA) (D := D) (ms_Len l ad adV AX) (ms_Chr l ad adV AX) 40 j (.ref 0 :: as) σ (fun v σ'' => v = some (.int r) ∧ σ'' = σ') (by rw [hrun]; exact ⟨rfl, rfl⟩) hj
  have hini : (Cond.initialized (mm_mt j).2.1.cls).before #[Value.ref b] s = true := hts _ (mm_ws0_in p3)
  have hinst : (Cond.instanceMethod (mm_mt j).2.1).before #[Value.ref b] s = true := hts _ (mm_ws0_in w1)
  have hsel : (Cond.selects (mm_mt j).2.1.cls (mm_mt j).2.1 (mm_mt j).2.1).before #[Value.ref b] s = true := hts _ (mm_ws0_in w2)
  have hroom : (mm_rm 40).frames + 1 ≤ room_1.frames ∧ 8 + ((mm_mt j).2.2.2.1 + 11) + (mm_rm 40).locals ≤ room_1.locals := ⟨Nat.le_of_ble_eq_true rfl, by show 8 + ((mm_mt j).2.2.2.1 + 11) + 64 * (40 + 8) ≤ 84000; omega⟩
  have hrecv := va_recv hK hP (mm_cl (mm_c8 hT2)) (mm_ws_get h2)
  have hpre : PreV s H (mm_mt j).2.1.cls (ad 0) (va_Pc ((Value.ref 0 :: as).map (mm_re ad)) (mm_B sh ad adV cA D AX σ)) (as.map (mm_re ad)) := ⟨mm_blind, by rw [p2]; exact hrecv, fun U hU hW => ⟨rfl, by rw [hU]; exact hP, va_K.moved hW.alike hK, hDX, hN.warm hW, by rw [hU]; exact ((hZ.kept hS.2.1).narrow hAX).warm hW⟩⟩
  have hr0 := va_runV (p := p) (l := l) (e := e) (R := room_1) (s := s) (m := m) (args := #[Value.ref b]) (below := below) (meth := meth) (c := c) (H := H) (locs := locs) (cells := cells) (slots := slots) (cc := code) (nL := 4) (Ts := lw_tbl) (own := R_law) (As := as.map (mm_re ad)) (rest := rest) (g := F0 m pc ls st) ⟨hx, hb, hml, hown, hts⟩ hM ⟨callB_of _ hts (ml_good hT2) rfl rfl rfl hini (hts _ hlink) ⟨p4, p5, p6⟩ hroom, hinst, hsel⟩ hpre rfl (by rw [List.length_map]; exact hn) hsz hstk (lv_room (m := m) (pc := pc) (ls := ls) (rest := st) h8) hd ⟨hcells, hslots⟩
  intro T hT X
  obtain ⟨v, st₀, t, T', L', h0, X', hL, e1, e2, ⟨⟨r1, u, hv, hp, hb'⟩, hz, hk⟩, stp⟩ := hr0 T hT X
  obtain ⟨hp1, hp2⟩ := hp
  subst hp1; subst hp2
  cases hv
  rw [h0] at hz hk
  obtain ⟨t2, a1, b1⟩ := kk T'.heap (locs ++ L') (by rw [e1]; exact hb'.1) (by rw [e1]; exact hz) (fun q h1 h2 => by rw [e1]; exact hk q h1 h2)
    ⟨Nat.le_trans hS.1 (by rw [e1]; exact hz), fun q h1 h2 => by rw [e1, hk q (Nat.lt_of_lt_of_le h1 hS.1) (fun z => h2 (hAX q z))]; exact hS.2.1 q h1 h2, fun q hq => by
      rcases List.mem_append.mp hq with h | h
      · exact hS.2.2 q h
      · exact hAX _ (hL q h)⟩ T' rfl X'
  exact ⟨t2, stp t2 a1, b1⟩
/-- the whole of what stays, while the law runs -/
def ml_F (D : va_G) (cA : FieldType → ClassId) (gC gM adV : Nat → Nat) (AC AM : Nat → Prop) (b L : Nat) (xs : Nat → Int32) (p : Program) (s : State) (m : MethodId) (meth : Method) (c : Code) : Prop :=
  lw_At p s m meth c b L xs ∧ L ≤ 2048 ∧ va_K D vwCl (mm_tys cA) s ∧ mm_N s ∧ mm_S gC adV (ml_A s) s s.heap ∧ mm_S gM adV (ml_A s) s s.heap ∧ (∀ σ, va_D AC (mm_ws shC gC cA σ)) ∧ (∀ σ, va_D AM (mm_ws shM gM cA σ)) ∧ (∀ q, AC q → ml_A s q) ∧ (∀ q, AM q → ml_A s q) ∧ ∀ q, AC q → ¬ AM q
def ml_W (D : va_G) (cA : FieldType → ClassId) (gC gM : Nat → Nat) (s : State) (σ μ : mm_M) (H : Heap) (locs : List Loc) : Prop := Inv σ μ ∧ va_P D vwCl (mm_ws shC gC cA σ) H ∧ va_P D vwCl (mm_ws shM gM cA μ) H ∧ va_S (ml_A s) s.heap H locs
variable {gC gM : Nat → Nat} {AC AM : Nat → Prop} {i : Nat}
def ml_lv (gC gM : Nat → Nat) (b i : Nat) : List (Nat × Value) := [(3, .int (nI i)), (2, .ref (gM 0)), (1, .ref (gC 0)), (0, .ref b)]
theorem ml_arg {k : Nat} {n : Int} {rest : List Value} (F : ml_F D cA gC gM adV AC AM b L xs p s m meth c) (hl : lv_has ls 4 (ml_lv gC gM b i)) (hi : i + 4 ≤ L) (hS : va_S (ml_A s) s.heap H locs) (hk : k < 4) (hn : Int32.ofInt n = nI k) (d0 : decode code pc = .ok (.aload_n 0, 1)) (d1 : decode code (pc + 1) = .ok (.iload_n 3, 1)) (d2 : decode code (pc + 1 + 1) = .ok (.iconst n, 1)) (d3 : decode code (pc + 1 + 1 + 1) = .ok (.iadd, 1)) (d4 : decode code (pc + 1 + 1 + 1 + 1) = .ok (.iaload, 1))
    (kk : W p l e room_1 s m #[Value.ref b] below meth c H locs cells slots Q (F0 m (pc + 1 + 1 + 1 + 1 + 1) ls (.int (xs (i + k)) :: rest))) : W p l e room_1 s m #[Value.ref b] below meth c H locs cells slots Q (F0 m pc ls rest) := by
  obtain ⟨⟨hx, hb, hr, hml, hown, hts, hX, hbl, hlocks, hgv⟩, hL, -⟩ := F
  refine lv_aload_n hx hb d0 rfl (lv_at hl 3 rfl) ?_
  refine lv_iload_n hx hb d1 rfl (lv_at hl 0 rfl) ?_
  refine lv_iconst hx hb d2 hn ?_
  refine lv_iadd hx hb d3 ?_
  rw [nI_add]
  refine va_sld hx hb hX hbl (Nat.not_le.mpr hbl) hS (vp_in_nI (by omega) (by omega)) d4 ?_
  rw [nI_clamp (by omega)]
  exact kk
def ml_y (x y : Int32) : Int64 := (x.toInt64 <<< ((32 : Int32).toInt64 &&& 63)) ||| (y.toInt64 &&& 4294967295)
theorem ml_c13 : Cond.constantLong R_law 13 4294967295 ∈ lw_tbl := List.mem_of_getElem? (i := 1154) (by decide +kernel)
theorem ml_yarg {rest : List Value} (F : ml_F D cA gC gM adV AC AM b L xs p s m meth c) (hl : lv_has ls 4 (ml_lv gC gM b i)) (hi : i + 4 ≤ L) (hS : va_S (ml_A s) s.heap H locs) (d0 : decode code pc = .ok (.aload_n 0, 1)) (d1 : decode code (pc + 1) = .ok (.iload_n 3, 1)) (d2 : decode code (pc + 1 + 1) = .ok (.iconst 2, 1)) (d3 : decode code (pc + 1 + 1 + 1) = .ok (.iadd, 1)) (d4 : decode code (pc + 1 + 1 + 1 + 1) = .ok (.iaload, 1))
    (d5 : decode code (pc + 5) = .ok (.i2l, 1)) (d6 : decode code (pc + 6) = .ok (.bipush 32, 2)) (d7 : decode code (pc + 8) = .ok (.lshl, 1)) (e0 : decode code (pc + 9) = .ok (.aload_n 0, 1)) (e1 : decode code (pc + 9 + 1) = .ok (.iload_n 3, 1)) (e2 : decode code (pc + 9 + 1 + 1) = .ok (.iconst 3, 1)) (e3 : decode code (pc + 9 + 1 + 1 + 1) = .ok (.iadd, 1)) (e4 : decode code (pc + 9 + 1 + 1 + 1 + 1) = .ok (.iaload, 1)) (e5 : decode code (pc + 14) = .ok (.i2l, 1)) (e6 : decode code (pc + 15) = .ok (.ldc2_w 13, 3)) (e7 : decode code (pc + 18) = .ok (.land, 1)) (e8 : decode code (pc + 19) = .ok (.lor, 1))
    (kk : W p l e room_1 s m #[Value.ref b] below meth c H locs cells slots Q (F0 m (pc + 20) ls (.long (ml_y (xs (i + 2)) (xs (i + 3))) :: rest))) : W p l e room_1 s m #[Value.ref b] below meth c H locs cells slots Q (F0 m pc ls rest) := by
  refine ml_arg F hl hi hS (by decide) rfl d0 d1 d2 d3 d4 ?_
  have F' := F
  obtain ⟨⟨hx, hb, hr, hml, hown, hts, hX, hbl, hlocks, hgv⟩, hL, -⟩ := F
  refine lv_i2l hx hb d5 rfl ?_
  refine lv_bipush (v := 32) hx hb d6 rfl ?_
  refine lv_lshl hx hb d7 rfl ?_
  refine ml_arg F' hl hi hS (by decide) rfl e0 e1 e2 e3 e4 ?_
  refine lv_i2l hx hb e5 rfl ?_
  refine lv_ldc2 hx hb hown (hts _ ml_c13) e6 ?_
  refine lv_land hx hb e7 ?_
  refine lv_lor hx hb e8 ?_
  exact kk
/-- both sides are called, one behind the other; the answers are the same -/
theorem ml_pair {jc jm i1 i2 pc2 : Nat} {off : Int} {as st1 : List Value} {σ μ : mm_M} (F : ml_F D cA gC gM adV AC AM b L xs p s m meth c) (hw : ml_W D cA gC gM s σ μ H locs) (hcall : Call jc jm as) (hsz : ls.size = 4) (hcells : cells ≤ 600000) (hslots : slots ≤ 7302249)
    (hj1 : jc < mm_mtab.length) (hst1 : (mm_mt jc).2.2.2.2.2.1 = false) (hn1 : as.length = (mm_mt jc).2.2.2.2.2.2) (hc1 : (mm_mt jc).1 = 6) (hl1 : Cond.methodLink R_law i1 (mm_mt jc).2.1 ∈ lw_tbl) (hj2 : jm < mm_mtab.length) (hst2 : (mm_mt jm).2.2.2.2.2.1 = false) (hn2 : as.length = (mm_mt jm).2.2.2.2.2.2) (hc2 : (mm_mt jm).1 = 7) (hl2 : Cond.methodLink R_law i2 (mm_mt jm).2.1 ∈ lw_tbl)
    (hre : ∀ ad : Nat → Nat, as.map (mm_re ad) = as) (hstk : st1 = as.reverse ++ [.ref (gC 0)]) (hd1 : decode code pc = .ok (.invokevirtual i1, 3)) (hd2 : decode code pc2 = .ok (.invokevirtual i2, 3)) (hd3 : decode code (pc2 + 3) = .ok (.if_icmp .eq off, 3)) (ht : ((pc2 + 3 : Nat) : Int) + off = ((837 : Nat) : Int))
    (mid : ∀ (H1 : Heap) (locs1 : List Loc) (r : Int32), va_S (ml_A s) s.heap H1 locs1 → W p l e room_1 s m #[Value.ref b] below meth c H1 locs1 cells slots Q (F0 m pc2 ls (as.reverse ++ [.ref (gM 0), .int r])) → W p l e room_1 s m #[Value.ref b] below meth c H1 locs1 cells slots Q (F0 m (pc + 3) ls [.int r]))
    (kk : ∀ (σ' μ' : mm_M) (H1 : Heap) (locs1 : List Loc), ml_W D cA gC gM s σ' μ' H1 locs1 → W p l e room_1 s m #[Value.ref b] below meth c H1 locs1 cells slots Q (F0 m 837 ls [])) : W p l e room_1 s m #[Value.ref b] below meth c H locs cells slots Q (F0 m pc ls st1) := by
  obtain ⟨C0, hL, hK, hN, hZC, hZM, hDC, hDM, hAC, hAM, hne⟩ := F
  obtain ⟨hI, hPC, hPM, hS⟩ := hw
  obtain ⟨r, σ', μ', hI', hr1, hr2⟩ := hcall σ μ hI
  refine ml_call (rest := []) C0 hK hN hZC (hDC σ) hAC hPC hS (fun P => hr1 0 P) hj1 hst1 hn1 ⟨_, by rw [hc1]; rfl⟩ hl1 hd1 (by rw [hre]; exact hstk) (Nat.le_of_ble_eq_true rfl) hsz hcells hslots (fun H1 locs1 hPC1 hz1 hk1 hS1 => ?_)
  refine mid H1 locs1 r hS1 ?_
  have hPM1 : va_P D vwCl (mm_ws shM gM cA μ) H1 := hPM.kept (fun k q hq => hk1 q.1 (hPM k q hq).lt (fun z => hne _ z ((hDM μ).2 k q hq)))
  refine ml_call (rest := [.int r]) C0 hK hN hZM (hDM μ) hAM hPM1 hS1 (fun P => hr2 0 P) hj2 hst2 hn2 ⟨_, by rw [hc2]; rfl⟩ hl2 hd2 (by rw [hre]) (Nat.le_of_ble_eq_true rfl) hsz hcells hslots (fun H2 locs2 hPM2 hz2 hk2 hS2 => ?_)
  have hPC2 : va_P D vwCl (mm_ws shC gC cA σ') H2 := hPC1.kept (fun k q hq => hk2 q.1 (hPC1 k q hq).lt (fun z => hne _ ((hDC σ').2 k q hq) z))
  refine lv_icmp_eq (tgt := 837) C0.1 C0.2.1 hd3 ht (fun _ => ?_) (fun q => absurd rfl q)
  exact kk σ' μ' H2 locs2 ⟨hI', hPC2, hPM2, hS2⟩
end ML
