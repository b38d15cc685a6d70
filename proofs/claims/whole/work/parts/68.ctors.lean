/-! EACH CONSTRUCTOR, by program (wip/whole/gen_ctor.py) -/
def mc_G (l : List Nat) (k : Nat) : Nat := l.getD k 0
/-- the cells of a shape, one by one -/
def mc_fgo (g : Nat → Nat) (σ : mm_M) (k : Nat) : Nat → List mm_F → List Value
  | _, [] => []
  | j, f :: t => mm_re g (mm_fv σ k j f) :: mc_fgo g σ k (j + 1) t
theorem mc_fgo_eq {g : Nat → Nat} {σ : mm_M} {k : Nat} : ∀ (l : List mm_F) (o : Nat), l.mapIdx (fun j f => mm_re g (mm_fv σ k (o + j) f)) = mc_fgo g σ k o l
  | [], _ => rfl
  | f :: t, o => by
    rw [List.mapIdx_cons]
    show mm_re g (mm_fv σ k (o + 0) f) :: _ = mm_re g (mm_fv σ k o f) :: mc_fgo g σ k (o + 1) t
    rw [← mc_fgo_eq t (o + 1)]
    congr 2
    funext j f
    rw [show o + (j + 1) = o + 1 + j by omega]
def mc_go (g : Nat → Nat) (cA : FieldType → ClassId) (σ : mm_M) : Nat → List mm_H → va_W
  | _, [] => []
  | o, h :: t => (g o, mm_cell g cA σ o h) :: mc_go g cA σ (o + 1) t
theorem mc_go_eq {g : Nat → Nat} {cA : FieldType → ClassId} {σ : mm_M} : ∀ (l : List mm_H) (o : Nat), l.mapIdx (fun k h => (g (o + k), mm_cell g cA σ (o + k) h)) = mc_go g cA σ o l
  | [], _ => rfl
  | h :: t, o => by
    rw [List.mapIdx_cons]
    show (g (o + 0), mm_cell g cA σ (o + 0) h) :: _ = (g o, mm_cell g cA σ o h) :: mc_go g cA σ (o + 1) t
    rw [← mc_go_eq t (o + 1)]
    congr 2
    funext k h
    rw [show o + (k + 1) = o + 1 + k by omega]
theorem mc_ws_go {g : Nat → Nat} {cA : FieldType → ClassId} {σ : mm_M} {sh : List mm_H} : mm_ws sh g cA σ = mc_go g cA σ 0 sh := by
  rw [← mc_go_eq sh 0]
  unfold mm_ws
  congr 1
  funext k h
  rw [Nat.zero_add]
theorem mc_gc {g : Nat → Nat} {cA : FieldType → ClassId} {σ : mm_M} {o : Nat} {h : mm_H} {t : List mm_H} {a : Nat × va_E} {l : va_W} (h1 : a = (g o, mm_cell g cA σ o h)) (h2 : l = mc_go g cA σ (o + 1) t) : a :: l = mc_go g cA σ o (h :: t) := by
  rw [h1, h2]; rfl
theorem mc_gb {g : Nat → Nat} {cA : FieldType → ClassId} {σ : mm_M} {o a ci : Nat} {fs : List Value} {fk : List mm_F} (h1 : a = g o) (h2 : fs = mc_fgo g σ o 0 fk) : ((a, .inr (ci, fs)) : Nat × va_E) = (g o, mm_cell g cA σ o (.inr (ci, fk))) := by
  rw [h1, h2, ← mc_fgo_eq fk 0]
  simp only [mm_cell, mm_fs, Nat.zero_add]
def mc_cwl : List Cond := [.classLink RX1 15 RX5, .classLink RX4 15 RX2, .classLink RX6 7 RX1, .classLink RX6 16 RX5, .classLink RX6 23 RX2, .classLink RX6 30 RX3, .classLink RX6 37 RX4, .classLink RX6 44 RX0]
set_option maxRecDepth 100000 in
theorem mc_cl : ∀ w ∈ mc_cwl, w ∈ mm_ws0 := mm_bulk _ [83, 248, 77, 189, 191, 214, 242, 265] rfl (by decide +kernel)
def mc_sh0 : List mm_H := [.inr (0, [some (some 1), some (some 2), some (some 3), none, none, none, none]), .inl (.int, 7), .inl (.int, 7), .inl (.int, 7)]
def mc_s0 : mm_M := (fun k => fun _ => 0, fun _ _ => 0)
set_option maxRecDepth 100000 in
theorem mc_w0 (g : Nat → Nat) (cA : FieldType → ClassId) : mm_ws mc_sh0 g cA mc_s0 = [((g 0), .inr (0, [.ref (g 1), .ref (g 2), .ref (g 3), .int 0, .int 0, .int 0, .int 0])), ((g 1), .inl (cA .int, 7, .inl (fun _ => 0))), ((g 2), .inl (cA .int, 7, .inl (fun _ => 0))), ((g 3), .inl (cA .int, 7, .inl (fun _ => 0)))] := by
  rw [mc_ws_go]
  symm
  refine mc_gc (mc_gb rfl rfl) ?_
  refine mc_gc (rfl) ?_
  refine mc_gc (rfl) ?_
  refine mc_gc (rfl) ?_
  rfl
set_option maxHeartbeats 4000000 in
set_option maxRecDepth 100000 in
theorem mc_X0 (l : Launch) (D : va_G) (cA : FieldType → ClassId) : mc_Met l D cA 0 [.null, .null, .null, .int 0, .int 0, .int 0, .int 0] mc_sh0 mc_s0 { frames := 1, cells := 3, slots := 21, locals := 12 } 3 21 := by
  refine mc_begin (by decide) dX0_init_0 dX0_init_1 (Nat.le_of_ble_eq_true rfl) (Nat.le_of_ble_eq_true rfl) ?_
  intro h0 A p e s m below meth c ls F hl hP hD hS
  have hk : ([.null, .null, .null, .int 0, .int 0, .int 0, .int 0] : List Value).length = 7 := rfl
  refine mc_rowB F hl (by decide) (idx := 9) (k := 0) (N := 7) dX0_init_4 dX0_init_5 mc_aI ⟨by decide +kernel, rfl, rfl, fun _ => ⟨rfl, rfl⟩⟩ (by rw [hk]; decide) (by decide) (by decide) (Nat.le_of_ble_eq_true rfl) (Nat.le_of_ble_eq_true rfl) (Nat.le_of_ble_eq_true rfl) hP hD hS dX0_init_7 dX0_init_9 (fun q1 H locs fs1 r1 hf1 hr1 hP hD hS => ?_)
  have hf : fs1 = [.ref q1, .null, .null, .int 0, .int 0, .int 0, .int 0] := by rw [hf1]; rfl
  have hk : fs1.length = 7 := by rw [hf]; rfl
  refine mc_rowB F hl (by decide) (idx := 15) (k := 1) (N := 7) dX0_init_12 dX0_init_13 mc_aI ⟨by decide +kernel, rfl, rfl, fun _ => ⟨rfl, rfl⟩⟩ (by rw [hk]; decide) (by decide) (by decide) (Nat.le_of_ble_eq_true rfl) (Nat.le_of_ble_eq_true rfl) (Nat.le_of_ble_eq_true rfl) hP hD hS dX0_init_15 dX0_init_17 (fun q2 H locs fs2 r2 hf1 hr2 hP hD hS => ?_)
  have hf : fs2 = [.ref q1, .ref q2, .null, .int 0, .int 0, .int 0, .int 0] := by rw [hf1, hf]; rfl
  have hk : fs2.length = 7 := by rw [hf]; rfl
  refine mc_rowB F hl (by decide) (idx := 18) (k := 2) (N := 7) dX0_init_20 dX0_init_21 mc_aI ⟨by decide +kernel, rfl, rfl, fun _ => ⟨rfl, rfl⟩⟩ (by rw [hk]; decide) (by decide) (by decide) (Nat.le_of_ble_eq_true rfl) (Nat.le_of_ble_eq_true rfl) (Nat.le_of_ble_eq_true rfl) hP hD hS dX0_init_23 dX0_init_25 (fun q3 H locs fs3 r3 hf1 hr3 hP hD hS => ?_)
  have hf : fs3 = [.ref q1, .ref q2, .ref q3, .int 0, .int 0, .int 0, .int 0] := by rw [hf1, hf]; rfl
  have hk : fs3.length = 7 := by rw [hf]; rfl
  exact mc_ret F dX0_init_28 (mc_G [h0, q1, q2, q3]) rfl hP hD (by
    rw [hr3, hr2, hr1, hf, mc_ws_go]
    simp only [List.nil_append, List.append_assoc, List.cons_append]
    refine mc_gc (mc_gb rfl rfl) ?_
    refine mc_gc (rfl) ?_
    refine mc_gc (rfl) ?_
    refine mc_gc (rfl) ?_
    rfl) hS
def mc_sh2 : List mm_H := [.inr (2, [some (some 1), some (some 2), some (some 3), none]), .inl (.int, 7), .inl (.int, 7), .inl (.int, 7)]
def mc_s2 : mm_M := (fun k => fun _ => 0, fun _ _ => 0)
set_option maxRecDepth 100000 in
theorem mc_w2 (g : Nat → Nat) (cA : FieldType → ClassId) : mm_ws mc_sh2 g cA mc_s2 = [((g 0), .inr (2, [.ref (g 1), .ref (g 2), .ref (g 3), .int 0])), ((g 1), .inl (cA .int, 7, .inl (fun _ => 0))), ((g 2), .inl (cA .int, 7, .inl (fun _ => 0))), ((g 3), .inl (cA .int, 7, .inl (fun _ => 0)))] := by
  rw [mc_ws_go]
  symm
  refine mc_gc (mc_gb rfl rfl) ?_
  refine mc_gc (rfl) ?_
  refine mc_gc (rfl) ?_
  refine mc_gc (rfl) ?_
  rfl
set_option maxHeartbeats 4000000 in
set_option maxRecDepth 100000 in
theorem mc_X2 (l : Launch) (D : va_G) (cA : FieldType → ClassId) : mc_Met l D cA 2 [.null, .null, .null, .int 0] mc_sh2 mc_s2 { frames := 1, cells := 3, slots := 21, locals := 12 } 3 21 := by
  refine mc_begin (by decide) dX2_init_0 dX2_init_1 (Nat.le_of_ble_eq_true rfl) (Nat.le_of_ble_eq_true rfl) ?_
  intro h0 A p e s m below meth c ls F hl hP hD hS
  have hk : ([.null, .null, .null, .int 0] : List Value).length = 4 := rfl
  refine mc_rowB F hl (by decide) (idx := 9) (k := 0) (N := 7) dX2_init_4 dX2_init_5 mc_aI ⟨by decide +kernel, rfl, rfl, fun _ => ⟨rfl, rfl⟩⟩ (by rw [hk]; decide) (by decide) (by decide) (Nat.le_of_ble_eq_true rfl) (Nat.le_of_ble_eq_true rfl) (Nat.le_of_ble_eq_true rfl) hP hD hS dX2_init_7 dX2_init_9 (fun q1 H locs fs1 r1 hf1 hr1 hP hD hS => ?_)
  have hf : fs1 = [.ref q1, .null, .null, .int 0] := by rw [hf1]; rfl
  have hk : fs1.length = 4 := by rw [hf]; rfl
  refine mc_rowB F hl (by decide) (idx := 15) (k := 1) (N := 7) dX2_init_12 dX2_init_13 mc_aI ⟨by decide +kernel, rfl, rfl, fun _ => ⟨rfl, rfl⟩⟩ (by rw [hk]; decide) (by decide) (by decide) (Nat.le_of_ble_eq_true rfl) (Nat.le_of_ble_eq_true rfl) (Nat.le_of_ble_eq_true rfl) hP hD hS dX2_init_15 dX2_init_17 (fun q2 H locs fs2 r2 hf1 hr2 hP hD hS => ?_)
  have hf : fs2 = [.ref q1, .ref q2, .null, .int 0] := by rw [hf1, hf]; rfl
  have hk : fs2.length = 4 := by rw [hf]; rfl
  refine mc_rowB F hl (by decide) (idx := 18) (k := 2) (N := 7) dX2_init_20 dX2_init_21 mc_aI ⟨by decide +kernel, rfl, rfl, fun _ => ⟨rfl, rfl⟩⟩ (by rw [hk]; decide) (by decide) (by decide) (Nat.le_of_ble_eq_true rfl) (Nat.le_of_ble_eq_true rfl) (Nat.le_of_ble_eq_true rfl) hP hD hS dX2_init_23 dX2_init_25 (fun q3 H locs fs3 r3 hf1 hr3 hP hD hS => ?_)
  have hf : fs3 = [.ref q1, .ref q2, .ref q3, .int 0] := by rw [hf1, hf]; rfl
  have hk : fs3.length = 4 := by rw [hf]; rfl
  exact mc_ret F dX2_init_28 (mc_G [h0, q1, q2, q3]) rfl hP hD (by
    rw [hr3, hr2, hr1, hf, mc_ws_go]
    simp only [List.nil_append, List.append_assoc, List.cons_append]
    refine mc_gc (mc_gb rfl rfl) ?_
    refine mc_gc (rfl) ?_
    refine mc_gc (rfl) ?_
    refine mc_gc (rfl) ?_
    rfl) hS
def mc_sh3 : List mm_H := [.inr (3, [some (some 1), some (some 2), none, none, none, none]), .inl (.int, 7), .inl (.int, 7)]
def mc_s3 : mm_M := (fun k => fun _ => 0, fun _ _ => 0)
set_option maxRecDepth 100000 in
theorem mc_w3 (g : Nat → Nat) (cA : FieldType → ClassId) : mm_ws mc_sh3 g cA mc_s3 = [((g 0), .inr (3, [.ref (g 1), .ref (g 2), .int 0, .int 0, .int 0, .int 0])), ((g 1), .inl (cA .int, 7, .inl (fun _ => 0))), ((g 2), .inl (cA .int, 7, .inl (fun _ => 0)))] := by
  rw [mc_ws_go]
  symm
  refine mc_gc (mc_gb rfl rfl) ?_
  refine mc_gc (rfl) ?_
  refine mc_gc (rfl) ?_
  rfl
set_option maxHeartbeats 4000000 in
set_option maxRecDepth 100000 in
theorem mc_X3 (l : Launch) (D : va_G) (cA : FieldType → ClassId) : mc_Met l D cA 3 [.null, .null, .int 0, .int 0, .int 0, .int 0] mc_sh3 mc_s3 { frames := 1, cells := 2, slots := 14, locals := 12 } 2 14 := by
  refine mc_begin (by decide) dX3_init_0 dX3_init_1 (Nat.le_of_ble_eq_true rfl) (Nat.le_of_ble_eq_true rfl) ?_
  intro h0 A p e s m below meth c ls F hl hP hD hS
  have hk : ([.null, .null, .int 0, .int 0, .int 0, .int 0] : List Value).length = 6 := rfl
  refine mc_rowB F hl (by decide) (idx := 9) (k := 0) (N := 7) dX3_init_4 dX3_init_5 mc_aI ⟨by decide +kernel, rfl, rfl, fun _ => ⟨rfl, rfl⟩⟩ (by rw [hk]; decide) (by decide) (by decide) (Nat.le_of_ble_eq_true rfl) (Nat.le_of_ble_eq_true rfl) (Nat.le_of_ble_eq_true rfl) hP hD hS dX3_init_7 dX3_init_9 (fun q1 H locs fs1 r1 hf1 hr1 hP hD hS => ?_)
  have hf : fs1 = [.ref q1, .null, .int 0, .int 0, .int 0, .int 0] := by rw [hf1]; rfl
  have hk : fs1.length = 6 := by rw [hf]; rfl
  refine mc_rowB F hl (by decide) (idx := 15) (k := 1) (N := 7) dX3_init_12 dX3_init_13 mc_aI ⟨by decide +kernel, rfl, rfl, fun _ => ⟨rfl, rfl⟩⟩ (by rw [hk]; decide) (by decide) (by decide) (Nat.le_of_ble_eq_true rfl) (Nat.le_of_ble_eq_true rfl) (Nat.le_of_ble_eq_true rfl) hP hD hS dX3_init_15 dX3_init_17 (fun q2 H locs fs2 r2 hf1 hr2 hP hD hS => ?_)
  have hf : fs2 = [.ref q1, .ref q2, .int 0, .int 0, .int 0, .int 0] := by rw [hf1, hf]; rfl
  have hk : fs2.length = 6 := by rw [hf]; rfl
  exact mc_ret F dX3_init_20 (mc_G [h0, q1, q2]) rfl hP hD (by
    rw [hr2, hr1, hf, mc_ws_go]
    simp only [List.nil_append, List.append_assoc, List.cons_append]
    refine mc_gc (mc_gb rfl rfl) ?_
    refine mc_gc (rfl) ?_
    refine mc_gc (rfl) ?_
    rfl) hS
def mc_sh5 : List mm_H := [.inr (5, [some (some 1), some (some 2), some (some 3), some (some 4), some (some 5), some (some 6), some (some 7), none, none, none, none, none]), .inl (.int, 7), .inl (.int, 7), .inl (.int, 7), .inl (.int, 7), .inl (.int, 7), .inl (.int, 7), .inl (.int, 7)]
def mc_s5 : mm_M := (fun k => match k with | 0 => fun j => if j = 9 then 1 else 0 | _ => fun _ => 0, fun _ _ => 0)
set_option maxRecDepth 100000 in
theorem mc_w5 (g : Nat → Nat) (cA : FieldType → ClassId) : mm_ws mc_sh5 g cA mc_s5 = [((g 0), .inr (5, [.ref (g 1), .ref (g 2), .ref (g 3), .ref (g 4), .ref (g 5), .ref (g 6), .ref (g 7), .int 0, .int 0, .int (1), .int 0, .int 0])), ((g 1), .inl (cA .int, 7, .inl (fun _ => 0))), ((g 2), .inl (cA .int, 7, .inl (fun _ => 0))), ((g 3), .inl (cA .int, 7, .inl (fun _ => 0))), ((g 4), .inl (cA .int, 7, .inl (fun _ => 0))), ((g 5), .inl (cA .int, 7, .inl (fun _ => 0))), ((g 6), .inl (cA .int, 7, .inl (fun _ => 0))), ((g 7), .inl (cA .int, 7, .inl (fun _ => 0)))] := by
  rw [mc_ws_go]
  symm
  refine mc_gc (mc_gb rfl rfl) ?_
  refine mc_gc (rfl) ?_
  refine mc_gc (rfl) ?_
  refine mc_gc (rfl) ?_
  refine mc_gc (rfl) ?_
  refine mc_gc (rfl) ?_
  refine mc_gc (rfl) ?_
  refine mc_gc (rfl) ?_
  rfl
set_option maxHeartbeats 4000000 in
set_option maxRecDepth 100000 in
theorem mc_X5 (l : Launch) (D : va_G) (cA : FieldType → ClassId) : mc_Met l D cA 5 [.null, .null, .null, .null, .null, .null, .null, .int 0, .int 0, .int 0, .int 0, .int 0] mc_sh5 mc_s5 { frames := 1, cells := 7, slots := 49, locals := 12 } 7 49 := by
  refine mc_begin (by decide) dX5_init_0 dX5_init_1 (Nat.le_of_ble_eq_true rfl) (Nat.le_of_ble_eq_true rfl) ?_
  intro h0 A p e s m below meth c ls F hl hP hD hS
  have hk : ([.null, .null, .null, .null, .null, .null, .null, .int 0, .int 0, .int 0, .int 0, .int 0] : List Value).length = 12 := rfl
  refine mc_rowB F hl (by decide) (idx := 9) (k := 0) (N := 7) dX5_init_4 dX5_init_5 mc_aI ⟨by decide +kernel, rfl, rfl, fun _ => ⟨rfl, rfl⟩⟩ (by rw [hk]; decide) (by decide) (by decide) (Nat.le_of_ble_eq_true rfl) (Nat.le_of_ble_eq_true rfl) (Nat.le_of_ble_eq_true rfl) hP hD hS dX5_init_7 dX5_init_9 (fun q1 H locs fs1 r1 hf1 hr1 hP hD hS => ?_)
  have hf : fs1 = [.ref q1, .null, .null, .null, .null, .null, .null, .int 0, .int 0, .int 0, .int 0, .int 0] := by rw [hf1]; rfl
  have hk : fs1.length = 12 := by rw [hf]; rfl
  refine mc_rowB F hl (by decide) (idx := 15) (k := 1) (N := 7) dX5_init_12 dX5_init_13 mc_aI ⟨by decide +kernel, rfl, rfl, fun _ => ⟨rfl, rfl⟩⟩ (by rw [hk]; decide) (by decide) (by decide) (Nat.le_of_ble_eq_true rfl) (Nat.le_of_ble_eq_true rfl) (Nat.le_of_ble_eq_true rfl) hP hD hS dX5_init_15 dX5_init_17 (fun q2 H locs fs2 r2 hf1 hr2 hP hD hS => ?_)
  have hf : fs2 = [.ref q1, .ref q2, .null, .null, .null, .null, .null, .int 0, .int 0, .int 0, .int 0, .int 0] := by rw [hf1, hf]; rfl
  have hk : fs2.length = 12 := by rw [hf]; rfl
  refine mc_rowB F hl (by decide) (idx := 18) (k := 2) (N := 7) dX5_init_20 dX5_init_21 mc_aI ⟨by decide +kernel, rfl, rfl, fun _ => ⟨rfl, rfl⟩⟩ (by rw [hk]; decide) (by decide) (by decide) (Nat.le_of_ble_eq_true rfl) (Nat.le_of_ble_eq_true rfl) (Nat.le_of_ble_eq_true rfl) hP hD hS dX5_init_23 dX5_init_25 (fun q3 H locs fs3 r3 hf1 hr3 hP hD hS => ?_)
  have hf : fs3 = [.ref q1, .ref q2, .ref q3, .null, .null, .null, .null, .int 0, .int 0, .int 0, .int 0, .int 0] := by rw [hf1, hf]; rfl
  have hk : fs3.length = 12 := by rw [hf]; rfl
  refine mc_rowB F hl (by decide) (idx := 21) (k := 3) (N := 7) dX5_init_28 dX5_init_29 mc_aI ⟨by decide +kernel, rfl, rfl, fun _ => ⟨rfl, rfl⟩⟩ (by rw [hk]; decide) (by decide) (by decide) (Nat.le_of_ble_eq_true rfl) (Nat.le_of_ble_eq_true rfl) (Nat.le_of_ble_eq_true rfl) hP hD hS dX5_init_31 dX5_init_33 (fun q4 H locs fs4 r4 hf1 hr4 hP hD hS => ?_)
  have hf : fs4 = [.ref q1, .ref q2, .ref q3, .ref q4, .null, .null, .null, .int 0, .int 0, .int 0, .int 0, .int 0] := by rw [hf1, hf]; rfl
  have hk : fs4.length = 12 := by rw [hf]; rfl
  refine mc_rowB F hl (by decide) (idx := 24) (k := 4) (N := 7) dX5_init_36 dX5_init_37 mc_aI ⟨by decide +kernel, rfl, rfl, fun _ => ⟨rfl, rfl⟩⟩ (by rw [hk]; decide) (by decide) (by decide) (Nat.le_of_ble_eq_true rfl) (Nat.le_of_ble_eq_true rfl) (Nat.le_of_ble_eq_true rfl) hP hD hS dX5_init_39 dX5_init_41 (fun q5 H locs fs5 r5 hf1 hr5 hP hD hS => ?_)
  have hf : fs5 = [.ref q1, .ref q2, .ref q3, .ref q4, .ref q5, .null, .null, .int 0, .int 0, .int 0, .int 0, .int 0] := by rw [hf1, hf]; rfl
  have hk : fs5.length = 12 := by rw [hf]; rfl
  refine mc_rowB F hl (by decide) (idx := 27) (k := 5) (N := 7) dX5_init_44 dX5_init_45 mc_aI ⟨by decide +kernel, rfl, rfl, fun _ => ⟨rfl, rfl⟩⟩ (by rw [hk]; decide) (by decide) (by decide) (Nat.le_of_ble_eq_true rfl) (Nat.le_of_ble_eq_true rfl) (Nat.le_of_ble_eq_true rfl) hP hD hS dX5_init_47 dX5_init_49 (fun q6 H locs fs6 r6 hf1 hr6 hP hD hS => ?_)
  have hf : fs6 = [.ref q1, .ref q2, .ref q3, .ref q4, .ref q5, .ref q6, .null, .int 0, .int 0, .int 0, .int 0, .int 0] := by rw [hf1, hf]; rfl
  have hk : fs6.length = 12 := by rw [hf]; rfl
  refine mc_rowB F hl (by decide) (idx := 30) (k := 6) (N := 7) dX5_init_52 dX5_init_53 mc_aI ⟨by decide +kernel, rfl, rfl, fun _ => ⟨rfl, rfl⟩⟩ (by rw [hk]; decide) (by decide) (by decide) (Nat.le_of_ble_eq_true rfl) (Nat.le_of_ble_eq_true rfl) (Nat.le_of_ble_eq_true rfl) hP hD hS dX5_init_55 dX5_init_57 (fun q7 H locs fs7 r7 hf1 hr7 hP hD hS => ?_)
  have hf : fs7 = [.ref q1, .ref q2, .ref q3, .ref q4, .ref q5, .ref q6, .ref q7, .int 0, .int 0, .int 0, .int 0, .int 0] := by rw [hf1, hf]; rfl
  have hk : fs7.length = 12 := by rw [hf]; rfl
  refine mc_int F hl (by decide) (idx := 33) (k := 9) (1) (by decide) dX5_init_60 dX5_init_61 dX5_init_62 (by decide +kernel) rfl rfl rfl (by rw [hk]; decide) hP hD hS (fun H locs fs8 hf1 hP hD hS => ?_)
  have hf : fs8 = [.ref q1, .ref q2, .ref q3, .ref q4, .ref q5, .ref q6, .ref q7, .int 0, .int 0, .int (1), .int 0, .int 0] := by rw [hf1, hf]; rfl
  have hk : fs8.length = 12 := by rw [hf]; rfl
  refine mc_int F hl (by decide) (idx := 37) (k := 10) (0) (by decide) dX5_init_65 dX5_init_66 dX5_init_67 (by decide +kernel) rfl rfl rfl (by rw [hk]; decide) hP hD hS (fun H locs fs9 hf1 hP hD hS => ?_)
  have hf : fs9 = [.ref q1, .ref q2, .ref q3, .ref q4, .ref q5, .ref q6, .ref q7, .int 0, .int 0, .int (1), .int (0), .int 0] := by rw [hf1, hf]; rfl
  have hk : fs9.length = 12 := by rw [hf]; rfl
  exact mc_ret F dX5_init_70 (mc_G [h0, q1, q2, q3, q4, q5, q6, q7]) rfl hP hD (by
    rw [hr7, hr6, hr5, hr4, hr3, hr2, hr1, hf, mc_ws_go]
    simp only [List.nil_append, List.append_assoc, List.cons_append]
    refine mc_gc (mc_gb rfl rfl) ?_
    refine mc_gc (rfl) ?_
    refine mc_gc (rfl) ?_
    refine mc_gc (rfl) ?_
    refine mc_gc (rfl) ?_
    refine mc_gc (rfl) ?_
    refine mc_gc (rfl) ?_
    refine mc_gc (rfl) ?_
    rfl) hS
def mc_sh1 : List mm_H := [.inr (1, [some (some 1), some (some 2), none, none, none, none, none]), .inl (.byte, 400), .inr (5, [some (some 3), some (some 4), some (some 5), some (some 6), some (some 7), some (some 8), some (some 9), none, none, none, none, none]), .inl (.int, 7), .inl (.int, 7), .inl (.int, 7), .inl (.int, 7), .inl (.int, 7), .inl (.int, 7), .inl (.int, 7)]
def mc_s1 : mm_M := (fun k => match k with | 0 => fun j => if j = 3 then -1 else 0 | 2 => fun j => if j = 9 then 1 else 0 | _ => fun _ => 0, fun _ _ => 0)
set_option maxRecDepth 100000 in
theorem mc_w1 (g : Nat → Nat) (cA : FieldType → ClassId) : mm_ws mc_sh1 g cA mc_s1 = [((g 0), .inr (1, [.ref (g 1), .ref (g 2), .int 0, .int (-1), .int 0, .int 0, .int 0])), ((g 1), .inl (cA .byte, 400, .inl (fun _ => 0))), ((g 2), .inr (5, [.ref (g 3), .ref (g 4), .ref (g 5), .ref (g 6), .ref (g 7), .ref (g 8), .ref (g 9), .int 0, .int 0, .int (1), .int 0, .int 0])), ((g 3), .inl (cA .int, 7, .inl (fun _ => 0))), ((g 4), .inl (cA .int, 7, .inl (fun _ => 0))), ((g 5), .inl (cA .int, 7, .inl (fun _ => 0))), ((g 6), .inl (cA .int, 7, .inl (fun _ => 0))), ((g 7), .inl (cA .int, 7, .inl (fun _ => 0))), ((g 8), .inl (cA .int, 7, .inl (fun _ => 0))), ((g 9), .inl (cA .int, 7, .inl (fun _ => 0)))] := by
  rw [mc_ws_go]
  symm
  refine mc_gc (mc_gb rfl rfl) ?_
  refine mc_gc (rfl) ?_
  refine mc_gc (mc_gb rfl rfl) ?_
  refine mc_gc (rfl) ?_
  refine mc_gc (rfl) ?_
  refine mc_gc (rfl) ?_
  refine mc_gc (rfl) ?_
  refine mc_gc (rfl) ?_
  refine mc_gc (rfl) ?_
  refine mc_gc (rfl) ?_
  rfl
set_option maxHeartbeats 4000000 in
set_option maxRecDepth 100000 in
theorem mc_X1 (l : Launch) (D : va_G) (cA : FieldType → ClassId) : mc_Met l D cA 1 [.null, .null, .int 0, .int 0, .int 0, .int 0, .int 0] mc_sh1 mc_s1 { frames := 2, cells := 9, slots := 461, locals := 32 } 9 461 := by
  refine mc_begin (by decide) dX1_init_0 dX1_init_1 (Nat.le_of_ble_eq_true rfl) (Nat.le_of_ble_eq_true rfl) ?_
  intro h0 A p e s m below meth c ls F hl hP hD hS
  have hk : ([.null, .null, .int 0, .int 0, .int 0, .int 0, .int 0] : List Value).length = 7 := rfl
  refine mc_rowS F hl (by decide) (idx := 9) (k := 0) (N := 400) dX1_init_4 dX1_init_5 mc_aB ⟨by decide +kernel, rfl, rfl, fun _ => ⟨rfl, rfl⟩⟩ (by rw [hk]; decide) (by decide) (by decide) (Nat.le_of_ble_eq_true rfl) (Nat.le_of_ble_eq_true rfl) (Nat.le_of_ble_eq_true rfl) hP hD hS dX1_init_8 dX1_init_10 (fun q1 H locs fs1 r1 hf1 hr1 hP hD hS => ?_)
  have hf : fs1 = [.ref q1, .null, .int 0, .int 0, .int 0, .int 0, .int 0] := by rw [hf1]; rfl
  have hk : fs1.length = 7 := by rw [hf]; rfl
  refine mc_sub F hl (by decide) (idx := 18) (idxn := 15) (idxc := 17) (k := 1) (mc_X5 l D cA) (by decide) (by decide +kernel) (List.mem_of_getElem? (i := 6) rfl) (mc_cl _ (List.mem_of_getElem? (i := 0) rfl)) rfl rfl ⟨Nat.le_of_ble_eq_true rfl, Nat.le_of_ble_eq_true rfl⟩ dX1_init_13 dX1_init_14 dX1_init_17 dX1_init_18 dX1_init_21 ⟨by decide +kernel, rfl, rfl, fun _ => ⟨rfl, rfl⟩⟩ (by rw [hk]; decide) (Nat.le_of_ble_eq_true rfl) (Nat.le_of_ble_eq_true rfl) hP hD hS (fun g2 H locs fs2 r2 hf1 hr2 hP hD hS => ?_)
  have hf : fs2 = [.ref q1, .ref (g2 0), .int 0, .int 0, .int 0, .int 0, .int 0] := by rw [hf1, hf]; rfl
  have hk : fs2.length = 7 := by rw [hf]; rfl
  refine mc_int F hl (by decide) (idx := 22) (k := 3) (-1) (by decide) dX1_init_24 dX1_init_25 dX1_init_26 (by decide +kernel) rfl rfl rfl (by rw [hk]; decide) hP hD hS (fun H locs fs3 hf1 hP hD hS => ?_)
  have hf : fs3 = [.ref q1, .ref (g2 0), .int 0, .int (-1), .int 0, .int 0, .int 0] := by rw [hf1, hf]; rfl
  have hk : fs3.length = 7 := by rw [hf]; rfl
  exact mc_ret F dX1_init_29 (mc_G [h0, q1, g2 0, g2 1, g2 2, g2 3, g2 4, g2 5, g2 6, g2 7]) rfl hP hD (by
    rw [hr2, hr1, hf, mc_w5 g2, mc_ws_go]
    simp only [List.nil_append, List.append_assoc, List.cons_append]
    refine mc_gc (mc_gb rfl rfl) ?_
    refine mc_gc (rfl) ?_
    refine mc_gc (mc_gb rfl rfl) ?_
    refine mc_gc (rfl) ?_
    refine mc_gc (rfl) ?_
    refine mc_gc (rfl) ?_
    refine mc_gc (rfl) ?_
    refine mc_gc (rfl) ?_
    refine mc_gc (rfl) ?_
    refine mc_gc (rfl) ?_
    rfl) hS
def mc_sh4 : List mm_H := [.inr (4, [some (some 1), some (some 2), some (some 6), none]), .inl (.int, 7), .inr (2, [some (some 3), some (some 4), some (some 5), none]), .inl (.int, 7), .inl (.int, 7), .inl (.int, 7), .inl (.int, 30)]
def mc_s4 : mm_M := (fun k => fun _ => 0, fun _ _ => 0)
set_option maxRecDepth 100000 in
theorem mc_w4 (g : Nat → Nat) (cA : FieldType → ClassId) : mm_ws mc_sh4 g cA mc_s4 = [((g 0), .inr (4, [.ref (g 1), .ref (g 2), .ref (g 6), .int 0])), ((g 1), .inl (cA .int, 7, .inl (fun _ => 0))), ((g 2), .inr (2, [.ref (g 3), .ref (g 4), .ref (g 5), .int 0])), ((g 3), .inl (cA .int, 7, .inl (fun _ => 0))), ((g 4), .inl (cA .int, 7, .inl (fun _ => 0))), ((g 5), .inl (cA .int, 7, .inl (fun _ => 0))), ((g 6), .inl (cA .int, 30, .inl (fun _ => 0)))] := by
  rw [mc_ws_go]
  symm
  refine mc_gc (mc_gb rfl rfl) ?_
  refine mc_gc (rfl) ?_
  refine mc_gc (mc_gb rfl rfl) ?_
  refine mc_gc (rfl) ?_
  refine mc_gc (rfl) ?_
  refine mc_gc (rfl) ?_
  refine mc_gc (rfl) ?_
  rfl
set_option maxHeartbeats 4000000 in
set_option maxRecDepth 100000 in
theorem mc_X4 (l : Launch) (D : va_G) (cA : FieldType → ClassId) : mc_Met l D cA 4 [.null, .null, .null, .int 0] mc_sh4 mc_s4 { frames := 2, cells := 6, slots := 62, locals := 32 } 6 62 := by
  refine mc_begin (by decide) dX4_init_0 dX4_init_1 (Nat.le_of_ble_eq_true rfl) (Nat.le_of_ble_eq_true rfl) ?_
  intro h0 A p e s m below meth c ls F hl hP hD hS
  have hk : ([.null, .null, .null, .int 0] : List Value).length = 4 := rfl
  refine mc_rowB F hl (by decide) (idx := 9) (k := 0) (N := 7) dX4_init_4 dX4_init_5 mc_aI ⟨by decide +kernel, rfl, rfl, fun _ => ⟨rfl, rfl⟩⟩ (by rw [hk]; decide) (by decide) (by decide) (Nat.le_of_ble_eq_true rfl) (Nat.le_of_ble_eq_true rfl) (Nat.le_of_ble_eq_true rfl) hP hD hS dX4_init_7 dX4_init_9 (fun q1 H locs fs1 r1 hf1 hr1 hP hD hS => ?_)
  have hf : fs1 = [.ref q1, .null, .null, .int 0] := by rw [hf1]; rfl
  have hk : fs1.length = 4 := by rw [hf]; rfl
  refine mc_sub F hl (by decide) (idx := 18) (idxn := 15) (idxc := 17) (k := 1) (mc_X2 l D cA) (by decide) (by decide +kernel) (List.mem_of_getElem? (i := 7) rfl) (mc_cl _ (List.mem_of_getElem? (i := 1) rfl)) rfl rfl ⟨Nat.le_of_ble_eq_true rfl, Nat.le_of_ble_eq_true rfl⟩ dX4_init_12 dX4_init_13 dX4_init_16 dX4_init_17 dX4_init_20 ⟨by decide +kernel, rfl, rfl, fun _ => ⟨rfl, rfl⟩⟩ (by rw [hk]; decide) (Nat.le_of_ble_eq_true rfl) (Nat.le_of_ble_eq_true rfl) hP hD hS (fun g2 H locs fs2 r2 hf1 hr2 hP hD hS => ?_)
  have hf : fs2 = [.ref q1, .ref (g2 0), .null, .int 0] := by rw [hf1, hf]; rfl
  have hk : fs2.length = 4 := by rw [hf]; rfl
  refine mc_rowB F hl (by decide) (idx := 22) (k := 2) (N := 30) dX4_init_23 dX4_init_24 mc_aI ⟨by decide +kernel, rfl, rfl, fun _ => ⟨rfl, rfl⟩⟩ (by rw [hk]; decide) (by decide) (by decide) (Nat.le_of_ble_eq_true rfl) (Nat.le_of_ble_eq_true rfl) (Nat.le_of_ble_eq_true rfl) hP hD hS dX4_init_26 dX4_init_28 (fun q3 H locs fs3 r3 hf1 hr3 hP hD hS => ?_)
  have hf : fs3 = [.ref q1, .ref (g2 0), .ref q3, .int 0] := by rw [hf1, hf]; rfl
  have hk : fs3.length = 4 := by rw [hf]; rfl
  exact mc_ret F dX4_init_31 (mc_G [h0, q1, g2 0, g2 1, g2 2, g2 3, q3]) rfl hP hD (by
    rw [hr3, hr2, hr1, hf, mc_w2 g2, mc_ws_go]
    simp only [List.nil_append, List.append_assoc, List.cons_append]
    refine mc_gc (mc_gb rfl rfl) ?_
    refine mc_gc (rfl) ?_
    refine mc_gc (mc_gb rfl rfl) ?_
    refine mc_gc (rfl) ?_
    refine mc_gc (rfl) ?_
    refine mc_gc (rfl) ?_
    refine mc_gc (rfl) ?_
    rfl) hS
