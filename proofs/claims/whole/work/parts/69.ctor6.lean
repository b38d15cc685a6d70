def mc_s6 : mm_M := (fun k => match k with | 1 => fun j => if j = 3 then -1 else 0 | 3 => fun j => if j = 9 then 1 else 0 | 11 => fun j => if j = 9 then 1 else 0 | _ => fun _ => 0, fun _ _ => 0)
set_option maxHeartbeats 4000000 in
set_option maxRecDepth 100000 in
theorem mc_X6 (l : Launch) (D : va_G) (cA : FieldType → ClassId) : mc_Met l D cA 6 [.null, .null, .null, .null, .null, .null, .null, .null, .null, .null, .null, .int 0, .int 0] shC mc_s6 { frames := 3, cells := 44, slots := 770, locals := 52 } 44 770 := by
  refine mc_begin (by decide) dX6_init_0 dX6_init_1 (Nat.le_of_ble_eq_true rfl) (Nat.le_of_ble_eq_true rfl) ?_
  intro h0 A p e s m below meth c ls F hl hP hD hS
  have hk : ([.null, .null, .null, .null, .null, .null, .null, .null, .null, .null, .null, .int 0, .int 0] : List Value).length = 13 := rfl
  refine mc_sub F hl (by decide) (idx := 10) (idxn := 7) (idxc := 9) (k := 0) (mc_X1 l D cA) (by decide) (by decide +kernel) (List.mem_of_getElem? (i := 0) rfl) (mc_cl _ (List.mem_of_getElem? (i := 2) rfl)) rfl rfl ⟨Nat.le_of_ble_eq_true rfl, Nat.le_of_ble_eq_true rfl⟩ dX6_init_4 dX6_init_5 dX6_init_8 dX6_init_9 dX6_init_12 ⟨by decide +kernel, rfl, rfl, fun _ => ⟨rfl, rfl⟩⟩ (by rw [hk]; decide) (Nat.le_of_ble_eq_true rfl) (Nat.le_of_ble_eq_true rfl) hP hD hS (fun g1 H locs fs1 r1 hf1 hr1 hP hD hS => ?_)
  have hf : fs1 = [.ref (g1 0), .null, .null, .null, .null, .null, .null, .null, .null, .null, .null, .int 0, .int 0] := by rw [hf1]; rfl
  have hk : fs1.length = 13 := by rw [hf]; rfl
  refine mc_sub F hl (by decide) (idx := 19) (idxn := 16) (idxc := 18) (k := 1) (mc_X5 l D cA) (by decide) (by decide +kernel) (List.mem_of_getElem? (i := 1) rfl) (mc_cl _ (List.mem_of_getElem? (i := 3) rfl)) rfl rfl ⟨Nat.le_of_ble_eq_true rfl, Nat.le_of_ble_eq_true rfl⟩ dX6_init_15 dX6_init_16 dX6_init_19 dX6_init_20 dX6_init_23 ⟨by decide +kernel, rfl, rfl, fun _ => ⟨rfl, rfl⟩⟩ (by rw [hk]; decide) (Nat.le_of_ble_eq_true rfl) (Nat.le_of_ble_eq_true rfl) hP hD hS (fun g2 H locs fs2 r2 hf1 hr2 hP hD hS => ?_)
  have hf : fs2 = [.ref (g1 0), .ref (g2 0), .null, .null, .null, .null, .null, .null, .null, .null, .null, .int 0, .int 0] := by rw [hf1, hf]; rfl
  have hk : fs2.length = 13 := by rw [hf]; rfl
  refine mc_sub F hl (by decide) (idx := 26) (idxn := 23) (idxc := 25) (k := 2) (mc_X2 l D cA) (by decide) (by decide +kernel) (List.mem_of_getElem? (i := 2) rfl) (mc_cl _ (List.mem_of_getElem? (i := 4) rfl)) rfl rfl ⟨Nat.le_of_ble_eq_true rfl, Nat.le_of_ble_eq_true rfl⟩ dX6_init_26 dX6_init_27 dX6_init_30 dX6_init_31 dX6_init_34 ⟨by decide +kernel, rfl, rfl, fun _ => ⟨rfl, rfl⟩⟩ (by rw [hk]; decide) (Nat.le_of_ble_eq_true rfl) (Nat.le_of_ble_eq_true rfl) hP hD hS (fun g3 H locs fs3 r3 hf1 hr3 hP hD hS => ?_)
  have hf : fs3 = [.ref (g1 0), .ref (g2 0), .ref (g3 0), .null, .null, .null, .null, .null, .null, .null, .null, .int 0, .int 0] := by rw [hf1, hf]; rfl
  have hk : fs3.length = 13 := by rw [hf]; rfl
  refine mc_sub F hl (by decide) (idx := 33) (idxn := 30) (idxc := 32) (k := 3) (mc_X3 l D cA) (by decide) (by decide +kernel) (List.mem_of_getElem? (i := 3) rfl) (mc_cl _ (List.mem_of_getElem? (i := 5) rfl)) rfl rfl ⟨Nat.le_of_ble_eq_true rfl, Nat.le_of_ble_eq_true rfl⟩ dX6_init_37 dX6_init_38 dX6_init_41 dX6_init_42 dX6_init_45 ⟨by decide +kernel, rfl, rfl, fun _ => ⟨rfl, rfl⟩⟩ (by rw [hk]; decide) (Nat.le_of_ble_eq_true rfl) (Nat.le_of_ble_eq_true rfl) hP hD hS (fun g4 H locs fs4 r4 hf1 hr4 hP hD hS => ?_)
  have hf : fs4 = [.ref (g1 0), .ref (g2 0), .ref (g3 0), .ref (g4 0), .null, .null, .null, .null, .null, .null, .null, .int 0, .int 0] := by rw [hf1, hf]; rfl
  have hk : fs4.length = 13 := by rw [hf]; rfl
  refine mc_sub F hl (by decide) (idx := 40) (idxn := 37) (idxc := 39) (k := 4) (mc_X4 l D cA) (by decide) (by decide +kernel) (List.mem_of_getElem? (i := 4) rfl) (mc_cl _ (List.mem_of_getElem? (i := 6) rfl)) rfl rfl ⟨Nat.le_of_ble_eq_true rfl, Nat.le_of_ble_eq_true rfl⟩ dX6_init_48 dX6_init_49 dX6_init_52 dX6_init_53 dX6_init_56 ⟨by decide +kernel, rfl, rfl, fun _ => ⟨rfl, rfl⟩⟩ (by rw [hk]; decide) (Nat.le_of_ble_eq_true rfl) (Nat.le_of_ble_eq_true rfl) hP hD hS (fun g5 H locs fs5 r5 hf1 hr5 hP hD hS => ?_)
  have hf : fs5 = [.ref (g1 0), .ref (g2 0), .ref (g3 0), .ref (g4 0), .ref (g5 0), .null, .null, .null, .null, .null, .null, .int 0, .int 0] := by rw [hf1, hf]; rfl
  have hk : fs5.length = 13 := by rw [hf]; rfl
  refine mc_sub F hl (by decide) (idx := 47) (idxn := 44) (idxc := 46) (k := 5) (mc_X0 l D cA) (by decide) (by decide +kernel) (List.mem_of_getElem? (i := 5) rfl) (mc_cl _ (List.mem_of_getElem? (i := 7) rfl)) rfl rfl ⟨Nat.le_of_ble_eq_true rfl, Nat.le_of_ble_eq_true rfl⟩ dX6_init_59 dX6_init_60 dX6_init_63 dX6_init_64 dX6_init_67 ⟨by decide +kernel, rfl, rfl, fun _ => ⟨rfl, rfl⟩⟩ (by rw [hk]; decide) (Nat.le_of_ble_eq_true rfl) (Nat.le_of_ble_eq_true rfl) hP hD hS (fun g6 H locs fs6 r6 hf1 hr6 hP hD hS => ?_)
  have hf : fs6 = [.ref (g1 0), .ref (g2 0), .ref (g3 0), .ref (g4 0), .ref (g5 0), .ref (g6 0), .null, .null, .null, .null, .null, .int 0, .int 0] := by rw [hf1, hf]; rfl
  have hk : fs6.length = 13 := by rw [hf]; rfl
  refine mc_sub F hl (by decide) (idx := 51) (idxn := 44) (idxc := 46) (k := 6) (mc_X0 l D cA) (by decide) (by decide +kernel) (List.mem_of_getElem? (i := 5) rfl) (mc_cl _ (List.mem_of_getElem? (i := 7) rfl)) rfl rfl ⟨Nat.le_of_ble_eq_true rfl, Nat.le_of_ble_eq_true rfl⟩ dX6_init_70 dX6_init_71 dX6_init_74 dX6_init_75 dX6_init_78 ⟨by decide +kernel, rfl, rfl, fun _ => ⟨rfl, rfl⟩⟩ (by rw [hk]; decide) (Nat.le_of_ble_eq_true rfl) (Nat.le_of_ble_eq_true rfl) hP hD hS (fun g7 H locs fs7 r7 hf1 hr7 hP hD hS => ?_)
  have hf : fs7 = [.ref (g1 0), .ref (g2 0), .ref (g3 0), .ref (g4 0), .ref (g5 0), .ref (g6 0), .ref (g7 0), .null, .null, .null, .null, .int 0, .int 0] := by rw [hf1, hf]; rfl
  have hk : fs7.length = 13 := by rw [hf]; rfl
  refine mc_rowB F hl (by decide) (idx := 54) (k := 7) (N := 7) dX6_init_81 dX6_init_82 mc_aI ⟨by decide +kernel, rfl, rfl, fun _ => ⟨rfl, rfl⟩⟩ (by rw [hk]; decide) (by decide) (by decide) (Nat.le_of_ble_eq_true rfl) (Nat.le_of_ble_eq_true rfl) (Nat.le_of_ble_eq_true rfl) hP hD hS dX6_init_84 dX6_init_86 (fun q8 H locs fs8 r8 hf1 hr8 hP hD hS => ?_)
  have hf : fs8 = [.ref (g1 0), .ref (g2 0), .ref (g3 0), .ref (g4 0), .ref (g5 0), .ref (g6 0), .ref (g7 0), .ref q8, .null, .null, .null, .int 0, .int 0] := by rw [hf1, hf]; rfl
  have hk : fs8.length = 13 := by rw [hf]; rfl
  refine mc_rowB F hl (by decide) (idx := 58) (k := 8) (N := 7) dX6_init_89 dX6_init_90 mc_aI ⟨by decide +kernel, rfl, rfl, fun _ => ⟨rfl, rfl⟩⟩ (by rw [hk]; decide) (by decide) (by decide) (Nat.le_of_ble_eq_true rfl) (Nat.le_of_ble_eq_true rfl) (Nat.le_of_ble_eq_true rfl) hP hD hS dX6_init_92 dX6_init_94 (fun q9 H locs fs9 r9 hf1 hr9 hP hD hS => ?_)
  have hf : fs9 = [.ref (g1 0), .ref (g2 0), .ref (g3 0), .ref (g4 0), .ref (g5 0), .ref (g6 0), .ref (g7 0), .ref q8, .ref q9, .null, .null, .int 0, .int 0] := by rw [hf1, hf]; rfl
  have hk : fs9.length = 13 := by rw [hf]; rfl
  refine mc_rowB F hl (by decide) (idx := 61) (k := 9) (N := 30) dX6_init_97 dX6_init_98 mc_aI ⟨by decide +kernel, rfl, rfl, fun _ => ⟨rfl, rfl⟩⟩ (by rw [hk]; decide) (by decide) (by decide) (Nat.le_of_ble_eq_true rfl) (Nat.le_of_ble_eq_true rfl) (Nat.le_of_ble_eq_true rfl) hP hD hS dX6_init_100 dX6_init_102 (fun q10 H locs fs10 r10 hf1 hr10 hP hD hS => ?_)
  have hf : fs10 = [.ref (g1 0), .ref (g2 0), .ref (g3 0), .ref (g4 0), .ref (g5 0), .ref (g6 0), .ref (g7 0), .ref q8, .ref q9, .ref q10, .null, .int 0, .int 0] := by rw [hf1, hf]; rfl
  have hk : fs10.length = 13 := by rw [hf]; rfl
  refine mc_rowB F hl (by decide) (idx := 64) (k := 10) (N := 30) dX6_init_105 dX6_init_106 mc_aI ⟨by decide +kernel, rfl, rfl, fun _ => ⟨rfl, rfl⟩⟩ (by rw [hk]; decide) (by decide) (by decide) (Nat.le_of_ble_eq_true rfl) (Nat.le_of_ble_eq_true rfl) (Nat.le_of_ble_eq_true rfl) hP hD hS dX6_init_108 dX6_init_110 (fun q11 H locs fs11 r11 hf1 hr11 hP hD hS => ?_)
  have hf : fs11 = [.ref (g1 0), .ref (g2 0), .ref (g3 0), .ref (g4 0), .ref (g5 0), .ref (g6 0), .ref (g7 0), .ref q8, .ref q9, .ref q10, .ref q11, .int 0, .int 0] := by rw [hf1, hf]; rfl
  have hk : fs11.length = 13 := by rw [hf]; rfl
  exact mc_ret F dX6_init_113 (mc_G [h0, g1 0, g1 1, g1 2, g1 3, g1 4, g1 5, g1 6, g1 7, g1 8, g1 9, g2 0, g2 1, g2 2, g2 3, g2 4, g2 5, g2 6, g2 7, g3 0, g3 1, g3 2, g3 3, g4 0, g4 1, g4 2, g5 0, g5 1, g5 2, g5 3, g5 4, g5 5, g5 6, g6 0, g6 1, g6 2, g6 3, g7 0, g7 1, g7 2, g7 3, q8, q9, q10, q11]) rfl hP hD (by
    rw [hr11, hr10, hr9, hr8, hr7, hr6, hr5, hr4, hr3, hr2, hr1, hf, mc_w1 g1, mc_w5 g2, mc_w2 g3, mc_w3 g4, mc_w4 g5, mc_w0 g6, mc_w0 g7, mc_ws_go]
    simp only [List.nil_append, List.append_assoc, List.cons_append]
    refine mc_gc (mc_gb rfl rfl) ?_
    refine mc_gc (mc_gb rfl rfl) ?_
    refine mc_gc (rfl) ?_
    refine mc_gc (mc_gb rfl rfl) ?_
    refine mc_gc (rfl) ?_
    refine mc_gc (rfl) ?_
    refine mc_gc (rfl) ?_
    refine mc_gc (rfl) ?_
    refine mc_gc (rfl) ?_
    refine mc_gc (rfl) ?_
    refine mc_gc (rfl) ?_
    refine mc_gc (mc_gb rfl rfl) ?_
    refine mc_gc (rfl) ?_
    refine mc_gc (rfl) ?_
    refine mc_gc (rfl) ?_
    refine mc_gc (rfl) ?_
    refine mc_gc (rfl) ?_
    refine mc_gc (rfl) ?_
    refine mc_gc (rfl) ?_
    refine mc_gc (mc_gb rfl rfl) ?_
    refine mc_gc (rfl) ?_
    refine mc_gc (rfl) ?_
    refine mc_gc (rfl) ?_
    refine mc_gc (mc_gb rfl rfl) ?_
    refine mc_gc (rfl) ?_
    refine mc_gc (rfl) ?_
    refine mc_gc (mc_gb rfl rfl) ?_
    refine mc_gc (rfl) ?_
    refine mc_gc (mc_gb rfl rfl) ?_
    refine mc_gc (rfl) ?_
    refine mc_gc (rfl) ?_
    refine mc_gc (rfl) ?_
    refine mc_gc (rfl) ?_
    refine mc_gc (mc_gb rfl rfl) ?_
    refine mc_gc (rfl) ?_
    refine mc_gc (rfl) ?_
    refine mc_gc (rfl) ?_
    refine mc_gc (mc_gb rfl rfl) ?_
    refine mc_gc (rfl) ?_
    refine mc_gc (rfl) ?_
    refine mc_gc (rfl) ?_
    refine mc_gc (rfl) ?_
    refine mc_gc (rfl) ?_
    refine mc_gc (rfl) ?_
    refine mc_gc (rfl) ?_
    rfl) hS
