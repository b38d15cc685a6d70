/-! THE LAW'S 27 CASES, by program (wip/whole/gen_law.py) -/
def ml_links : List (Nat × Nat) := [(15, 46), (19, 87), (20, 47), (24, 97), (25, 48), (28, 98), (29, 49), (33, 109), (34, 50), (38, 110), (39, 51), (42, 112), (43, 52), (46, 113), (47, 53), (50, 114), (51, 54), (54, 115), (55, 55), (58, 116), (59, 56), (62, 117), (63, 57), (66, 119), (67, 58), (70, 124), (71, 59), (74, 125), (75, 60), (78, 127), (79, 61), (82, 131), (83, 62), (86, 132), (87, 63), (90, 133), (91, 64), (94, 134), (95, 65), (98, 135), (99, 66), (102, 137), (103, 67), (106, 138), (107, 68), (110, 139), (111, 69), (114, 140), (115, 70), (118, 141), (119, 71), (122, 142), (123, 72), (126, 143)]
set_option maxRecDepth 100000 in
theorem ml_link : ∀ w ∈ ml_links.map (fun q => Cond.methodLink R_law q.1 (mm_mt q.2).2.1), w ∈ lw_tbl := fun w hw => by
  have hp : ml_links.map (fun q => Cond.methodLink R_law q.1 (mm_mt q.2).2.1) = [334, 883, 344, 894, 465, 942, 469, 946, 524, 996, 533, 1005, 546, 1017, 551, 1021, 555, 1025, 560, 1030, 564, 1035, 568, 1040, 585, 1053, 633, 1074, 637, 1078, 654, 1087, 672, 1105, 676, 1109, 687, 1113, 696, 1117, 700, 1121, 709, 1129, 713, 1134, 717, 1138, 721, 1142, 725, 1146, 738, 1150].filterMap (fun i => lw_tbl[i]?) := by decide +kernel
  rw [hp] at hw
  obtain ⟨i, -, hi⟩ := List.mem_filterMap.mp hw
  exact List.mem_of_getElem? hi
section MLC
variable {p : Program} {l : Launch} {e : Env} {s : State} {m : MethodId} {below : List Frame} {meth : Method} {c : Code} {H : Heap} {locs : List Loc} {cells slots : Nat} {Q : State → Prop} {ls : Array Slot} {D : va_G} {cA : FieldType → ClassId} {b L : Nat} {xs : Nat → Int32} {adV : Nat → Nat} {gC gM : Nat → Nat} {AC AM : Nat → Prop} {i : Nat} {σ μ : mm_M}
set_option maxRecDepth 100000 in
theorem ml_k0 (F : ml_F D cA gC gM adV AC AM b L xs p s m meth c) (hl : lv_has ls 4 (ml_lv gC gM b i)) (hi : i + 4 ≤ L) (hw : ml_W D cA gC gM s σ μ H locs) (hcells : cells ≤ 600000) (hslots : slots ≤ 7302249) (kk : ∀ (σ' μ' : mm_M) (H1 : Heap) (locs1 : List Loc), ml_W D cA gC gM s σ' μ' H1 locs1 → W p l e room_1 s m #[Value.ref b] below meth c H1 locs1 cells slots Q (F0 m 837 ls [])) : W p l e room_1 s m #[Value.ref b] below meth c H locs cells slots Q (F0 m 156 ls []) := by
  have hx := F.1.1
  have hb := F.1.2.1
  refine lv_aload_n hx hb dL_law_156 rfl (lv_at hl 2 rfl) ?_
  refine ml_arg F hl hi hw.2.2.2 (k := 1) (by decide) rfl dL_law_157 dL_law_158 dL_law_159 dL_law_160 dL_law_161 ?_
  refine ml_yarg F hl hi hw.2.2.2 dL_law_162 dL_law_163 dL_law_164 dL_law_165 dL_law_166 dL_law_167 dL_law_168 dL_law_170 dL_law_171 dL_law_172 dL_law_173 dL_law_174 dL_law_175 dL_law_176 dL_law_177 dL_law_180 dL_law_181 ?_
  refine ml_pair (jc := 46) (jm := 87) (i1 := 15) (i2 := 19) (pc2 := 211) (as := [.int (xs (i + 1)), .long (ml_y (xs (i + 2)) (xs (i + 3)))]) F hw (call_feed (xs (i + 1)) (ml_y (xs (i + 2)) (xs (i + 3)))) hl.1 hcells hslots (by decide) rfl rfl rfl (ml_link _ (List.mem_of_getElem? (i := 0) rfl)) (by decide) rfl rfl rfl (ml_link _ (List.mem_of_getElem? (i := 1) rfl)) (fun _ => rfl) rfl dL_law_182 dL_law_211 dL_law_214 (by decide) (fun H1 locs1 r hS1 kk1 => ?_) kk
  refine lv_aload_n hx hb dL_law_185 rfl (lv_at hl 1 rfl) ?_
  refine ml_arg F hl hi hS1 (k := 1) (by decide) rfl dL_law_186 dL_law_187 dL_law_188 dL_law_189 dL_law_190 ?_
  refine ml_yarg F hl hi hS1 dL_law_191 dL_law_192 dL_law_193 dL_law_194 dL_law_195 dL_law_196 dL_law_197 dL_law_199 dL_law_200 dL_law_201 dL_law_202 dL_law_203 dL_law_204 dL_law_205 dL_law_206 dL_law_209 dL_law_210 ?_
  exact kk1
set_option maxRecDepth 100000 in
theorem ml_k1 (F : ml_F D cA gC gM adV AC AM b L xs p s m meth c) (hl : lv_has ls 4 (ml_lv gC gM b i)) (hi : i + 4 ≤ L) (hw : ml_W D cA gC gM s σ μ H locs) (hcells : cells ≤ 600000) (hslots : slots ≤ 7302249) (kk : ∀ (σ' μ' : mm_M) (H1 : Heap) (locs1 : List Loc), ml_W D cA gC gM s σ' μ' H1 locs1 → W p l e room_1 s m #[Value.ref b] below meth c H1 locs1 cells slots Q (F0 m 837 ls [])) : W p l e room_1 s m #[Value.ref b] below meth c H locs cells slots Q (F0 m 219 ls []) := by
  have hx := F.1.1
  have hb := F.1.2.1
  refine lv_aload_n hx hb dL_law_219 rfl (lv_at hl 2 rfl) ?_
  refine ml_pair (jc := 47) (jm := 97) (i1 := 20) (i2 := 24) (pc2 := 224) (as := []) F hw (call_town) hl.1 hcells hslots (by decide) rfl rfl rfl (ml_link _ (List.mem_of_getElem? (i := 2) rfl)) (by decide) rfl rfl rfl (ml_link _ (List.mem_of_getElem? (i := 3) rfl)) (fun _ => rfl) rfl dL_law_220 dL_law_224 dL_law_227 (by decide) (fun H1 locs1 r hS1 kk1 => ?_) kk
  refine lv_aload_n hx hb dL_law_223 rfl (lv_at hl 1 rfl) ?_
  exact kk1
set_option maxRecDepth 100000 in
theorem ml_k2 (F : ml_F D cA gC gM adV AC AM b L xs p s m meth c) (hl : lv_has ls 4 (ml_lv gC gM b i)) (hi : i + 4 ≤ L) (hw : ml_W D cA gC gM s σ μ H locs) (hcells : cells ≤ 600000) (hslots : slots ≤ 7302249) (kk : ∀ (σ' μ' : mm_M) (H1 : Heap) (locs1 : List Loc), ml_W D cA gC gM s σ' μ' H1 locs1 → W p l e room_1 s m #[Value.ref b] below meth c H1 locs1 cells slots Q (F0 m 837 ls [])) : W p l e room_1 s m #[Value.ref b] below meth c H locs cells slots Q (F0 m 232 ls []) := by
  have hx := F.1.1
  have hb := F.1.2.1
  refine lv_aload_n hx hb dL_law_232 rfl (lv_at hl 2 rfl) ?_
  refine ml_pair (jc := 48) (jm := 98) (i1 := 25) (i2 := 28) (pc2 := 237) (as := []) F hw (call_fault) hl.1 hcells hslots (by decide) rfl rfl rfl (ml_link _ (List.mem_of_getElem? (i := 4) rfl)) (by decide) rfl rfl rfl (ml_link _ (List.mem_of_getElem? (i := 5) rfl)) (fun _ => rfl) rfl dL_law_233 dL_law_237 dL_law_240 (by decide) (fun H1 locs1 r hS1 kk1 => ?_) kk
  refine lv_aload_n hx hb dL_law_236 rfl (lv_at hl 1 rfl) ?_
  exact kk1
set_option maxRecDepth 100000 in
theorem ml_k3 (F : ml_F D cA gC gM adV AC AM b L xs p s m meth c) (hl : lv_has ls 4 (ml_lv gC gM b i)) (hi : i + 4 ≤ L) (hw : ml_W D cA gC gM s σ μ H locs) (hcells : cells ≤ 600000) (hslots : slots ≤ 7302249) (kk : ∀ (σ' μ' : mm_M) (H1 : Heap) (locs1 : List Loc), ml_W D cA gC gM s σ' μ' H1 locs1 → W p l e room_1 s m #[Value.ref b] below meth c H1 locs1 cells slots Q (F0 m 837 ls [])) : W p l e room_1 s m #[Value.ref b] below meth c H locs cells slots Q (F0 m 245 ls []) := by
  have hx := F.1.1
  have hb := F.1.2.1
  refine lv_aload_n hx hb dL_law_245 rfl (lv_at hl 2 rfl) ?_
  refine ml_arg F hl hi hw.2.2.2 (k := 1) (by decide) rfl dL_law_246 dL_law_247 dL_law_248 dL_law_249 dL_law_250 ?_
  refine ml_pair (jc := 49) (jm := 109) (i1 := 29) (i2 := 33) (pc2 := 260) (as := [.int (xs (i + 1))]) F hw (call_told (xs (i + 1))) hl.1 hcells hslots (by decide) rfl rfl rfl (ml_link _ (List.mem_of_getElem? (i := 6) rfl)) (by decide) rfl rfl rfl (ml_link _ (List.mem_of_getElem? (i := 7) rfl)) (fun _ => rfl) rfl dL_law_251 dL_law_260 dL_law_263 (by decide) (fun H1 locs1 r hS1 kk1 => ?_) kk
  refine lv_aload_n hx hb dL_law_254 rfl (lv_at hl 1 rfl) ?_
  refine ml_arg F hl hi hS1 (k := 1) (by decide) rfl dL_law_255 dL_law_256 dL_law_257 dL_law_258 dL_law_259 ?_
  exact kk1
set_option maxRecDepth 100000 in
theorem ml_k4 (F : ml_F D cA gC gM adV AC AM b L xs p s m meth c) (hl : lv_has ls 4 (ml_lv gC gM b i)) (hi : i + 4 ≤ L) (hw : ml_W D cA gC gM s σ μ H locs) (hcells : cells ≤ 600000) (hslots : slots ≤ 7302249) (kk : ∀ (σ' μ' : mm_M) (H1 : Heap) (locs1 : List Loc), ml_W D cA gC gM s σ' μ' H1 locs1 → W p l e room_1 s m #[Value.ref b] below meth c H1 locs1 cells slots Q (F0 m 837 ls [])) : W p l e room_1 s m #[Value.ref b] below meth c H locs cells slots Q (F0 m 268 ls []) := by
  have hx := F.1.1
  have hb := F.1.2.1
  refine lv_aload_n hx hb dL_law_268 rfl (lv_at hl 2 rfl) ?_
  refine ml_arg F hl hi hw.2.2.2 (k := 1) (by decide) rfl dL_law_269 dL_law_270 dL_law_271 dL_law_272 dL_law_273 ?_
  refine ml_arg F hl hi hw.2.2.2 (k := 2) (by decide) rfl dL_law_274 dL_law_275 dL_law_276 dL_law_277 dL_law_278 ?_
  refine ml_pair (jc := 50) (jm := 110) (i1 := 34) (i2 := 38) (pc2 := 293) (as := [.int (xs (i + 1)), .int (xs (i + 2))]) F hw (call_place (xs (i + 1)) (xs (i + 2))) hl.1 hcells hslots (by decide) rfl rfl rfl (ml_link _ (List.mem_of_getElem? (i := 8) rfl)) (by decide) rfl rfl rfl (ml_link _ (List.mem_of_getElem? (i := 9) rfl)) (fun _ => rfl) rfl dL_law_279 dL_law_293 dL_law_296 (by decide) (fun H1 locs1 r hS1 kk1 => ?_) kk
  refine lv_aload_n hx hb dL_law_282 rfl (lv_at hl 1 rfl) ?_
  refine ml_arg F hl hi hS1 (k := 1) (by decide) rfl dL_law_283 dL_law_284 dL_law_285 dL_law_286 dL_law_287 ?_
  refine ml_arg F hl hi hS1 (k := 2) (by decide) rfl dL_law_288 dL_law_289 dL_law_290 dL_law_291 dL_law_292 ?_
  exact kk1
set_option maxRecDepth 100000 in
theorem ml_k5 (F : ml_F D cA gC gM adV AC AM b L xs p s m meth c) (hl : lv_has ls 4 (ml_lv gC gM b i)) (hi : i + 4 ≤ L) (hw : ml_W D cA gC gM s σ μ H locs) (hcells : cells ≤ 600000) (hslots : slots ≤ 7302249) (kk : ∀ (σ' μ' : mm_M) (H1 : Heap) (locs1 : List Loc), ml_W D cA gC gM s σ' μ' H1 locs1 → W p l e room_1 s m #[Value.ref b] below meth c H1 locs1 cells slots Q (F0 m 837 ls [])) : W p l e room_1 s m #[Value.ref b] below meth c H locs cells slots Q (F0 m 301 ls []) := by
  have hx := F.1.1
  have hb := F.1.2.1
  refine lv_aload_n hx hb dL_law_301 rfl (lv_at hl 2 rfl) ?_
  refine ml_arg F hl hi hw.2.2.2 (k := 1) (by decide) rfl dL_law_302 dL_law_303 dL_law_304 dL_law_305 dL_law_306 ?_
  refine ml_arg F hl hi hw.2.2.2 (k := 2) (by decide) rfl dL_law_307 dL_law_308 dL_law_309 dL_law_310 dL_law_311 ?_
  refine ml_pair (jc := 51) (jm := 112) (i1 := 39) (i2 := 42) (pc2 := 326) (as := [.int (xs (i + 1)), .int (xs (i + 2))]) F hw (call_letter (xs (i + 1)) (xs (i + 2))) hl.1 hcells hslots (by decide) rfl rfl rfl (ml_link _ (List.mem_of_getElem? (i := 10) rfl)) (by decide) rfl rfl rfl (ml_link _ (List.mem_of_getElem? (i := 11) rfl)) (fun _ => rfl) rfl dL_law_312 dL_law_326 dL_law_329 (by decide) (fun H1 locs1 r hS1 kk1 => ?_) kk
  refine lv_aload_n hx hb dL_law_315 rfl (lv_at hl 1 rfl) ?_
  refine ml_arg F hl hi hS1 (k := 1) (by decide) rfl dL_law_316 dL_law_317 dL_law_318 dL_law_319 dL_law_320 ?_
  refine ml_arg F hl hi hS1 (k := 2) (by decide) rfl dL_law_321 dL_law_322 dL_law_323 dL_law_324 dL_law_325 ?_
  exact kk1
set_option maxRecDepth 100000 in
theorem ml_k6 (F : ml_F D cA gC gM adV AC AM b L xs p s m meth c) (hl : lv_has ls 4 (ml_lv gC gM b i)) (hi : i + 4 ≤ L) (hw : ml_W D cA gC gM s σ μ H locs) (hcells : cells ≤ 600000) (hslots : slots ≤ 7302249) (kk : ∀ (σ' μ' : mm_M) (H1 : Heap) (locs1 : List Loc), ml_W D cA gC gM s σ' μ' H1 locs1 → W p l e room_1 s m #[Value.ref b] below meth c H1 locs1 cells slots Q (F0 m 837 ls [])) : W p l e room_1 s m #[Value.ref b] below meth c H locs cells slots Q (F0 m 334 ls []) := by
  have hx := F.1.1
  have hb := F.1.2.1
  refine lv_aload_n hx hb dL_law_334 rfl (lv_at hl 2 rfl) ?_
  refine ml_arg F hl hi hw.2.2.2 (k := 1) (by decide) rfl dL_law_335 dL_law_336 dL_law_337 dL_law_338 dL_law_339 ?_
  refine ml_arg F hl hi hw.2.2.2 (k := 2) (by decide) rfl dL_law_340 dL_law_341 dL_law_342 dL_law_343 dL_law_344 ?_
  refine ml_pair (jc := 52) (jm := 113) (i1 := 43) (i2 := 46) (pc2 := 359) (as := [.int (xs (i + 1)), .int (xs (i + 2))]) F hw (call_far (xs (i + 1)) (xs (i + 2))) hl.1 hcells hslots (by decide) rfl rfl rfl (ml_link _ (List.mem_of_getElem? (i := 12) rfl)) (by decide) rfl rfl rfl (ml_link _ (List.mem_of_getElem? (i := 13) rfl)) (fun _ => rfl) rfl dL_law_345 dL_law_359 dL_law_362 (by decide) (fun H1 locs1 r hS1 kk1 => ?_) kk
  refine lv_aload_n hx hb dL_law_348 rfl (lv_at hl 1 rfl) ?_
  refine ml_arg F hl hi hS1 (k := 1) (by decide) rfl dL_law_349 dL_law_350 dL_law_351 dL_law_352 dL_law_353 ?_
  refine ml_arg F hl hi hS1 (k := 2) (by decide) rfl dL_law_354 dL_law_355 dL_law_356 dL_law_357 dL_law_358 ?_
  exact kk1
set_option maxRecDepth 100000 in
theorem ml_k7 (F : ml_F D cA gC gM adV AC AM b L xs p s m meth c) (hl : lv_has ls 4 (ml_lv gC gM b i)) (hi : i + 4 ≤ L) (hw : ml_W D cA gC gM s σ μ H locs) (hcells : cells ≤ 600000) (hslots : slots ≤ 7302249) (kk : ∀ (σ' μ' : mm_M) (H1 : Heap) (locs1 : List Loc), ml_W D cA gC gM s σ' μ' H1 locs1 → W p l e room_1 s m #[Value.ref b] below meth c H1 locs1 cells slots Q (F0 m 837 ls [])) : W p l e room_1 s m #[Value.ref b] below meth c H locs cells slots Q (F0 m 367 ls []) := by
  have hx := F.1.1
  have hb := F.1.2.1
  refine lv_aload_n hx hb dL_law_367 rfl (lv_at hl 2 rfl) ?_
  refine ml_arg F hl hi hw.2.2.2 (k := 1) (by decide) rfl dL_law_368 dL_law_369 dL_law_370 dL_law_371 dL_law_372 ?_
  refine ml_pair (jc := 53) (jm := 114) (i1 := 47) (i2 := 50) (pc2 := 382) (as := [.int (xs (i + 1))]) F hw (call_order (xs (i + 1))) hl.1 hcells hslots (by decide) rfl rfl rfl (ml_link _ (List.mem_of_getElem? (i := 14) rfl)) (by decide) rfl rfl rfl (ml_link _ (List.mem_of_getElem? (i := 15) rfl)) (fun _ => rfl) rfl dL_law_373 dL_law_382 dL_law_385 (by decide) (fun H1 locs1 r hS1 kk1 => ?_) kk
  refine lv_aload_n hx hb dL_law_376 rfl (lv_at hl 1 rfl) ?_
  refine ml_arg F hl hi hS1 (k := 1) (by decide) rfl dL_law_377 dL_law_378 dL_law_379 dL_law_380 dL_law_381 ?_
  exact kk1
set_option maxRecDepth 100000 in
theorem ml_k8 (F : ml_F D cA gC gM adV AC AM b L xs p s m meth c) (hl : lv_has ls 4 (ml_lv gC gM b i)) (hi : i + 4 ≤ L) (hw : ml_W D cA gC gM s σ μ H locs) (hcells : cells ≤ 600000) (hslots : slots ≤ 7302249) (kk : ∀ (σ' μ' : mm_M) (H1 : Heap) (locs1 : List Loc), ml_W D cA gC gM s σ' μ' H1 locs1 → W p l e room_1 s m #[Value.ref b] below meth c H1 locs1 cells slots Q (F0 m 837 ls [])) : W p l e room_1 s m #[Value.ref b] below meth c H locs cells slots Q (F0 m 390 ls []) := by
  have hx := F.1.1
  have hb := F.1.2.1
  refine lv_aload_n hx hb dL_law_390 rfl (lv_at hl 2 rfl) ?_
  refine ml_arg F hl hi hw.2.2.2 (k := 1) (by decide) rfl dL_law_391 dL_law_392 dL_law_393 dL_law_394 dL_law_395 ?_
  refine ml_arg F hl hi hw.2.2.2 (k := 2) (by decide) rfl dL_law_396 dL_law_397 dL_law_398 dL_law_399 dL_law_400 ?_
  refine ml_pair (jc := 54) (jm := 115) (i1 := 51) (i2 := 54) (pc2 := 415) (as := [.int (xs (i + 1)), .int (xs (i + 2))]) F hw (call_stones (xs (i + 1)) (xs (i + 2))) hl.1 hcells hslots (by decide) rfl rfl rfl (ml_link _ (List.mem_of_getElem? (i := 16) rfl)) (by decide) rfl rfl rfl (ml_link _ (List.mem_of_getElem? (i := 17) rfl)) (fun _ => rfl) rfl dL_law_401 dL_law_415 dL_law_418 (by decide) (fun H1 locs1 r hS1 kk1 => ?_) kk
  refine lv_aload_n hx hb dL_law_404 rfl (lv_at hl 1 rfl) ?_
  refine ml_arg F hl hi hS1 (k := 1) (by decide) rfl dL_law_405 dL_law_406 dL_law_407 dL_law_408 dL_law_409 ?_
  refine ml_arg F hl hi hS1 (k := 2) (by decide) rfl dL_law_410 dL_law_411 dL_law_412 dL_law_413 dL_law_414 ?_
  exact kk1
set_option maxRecDepth 100000 in
theorem ml_k9 (F : ml_F D cA gC gM adV AC AM b L xs p s m meth c) (hl : lv_has ls 4 (ml_lv gC gM b i)) (hi : i + 4 ≤ L) (hw : ml_W D cA gC gM s σ μ H locs) (hcells : cells ≤ 600000) (hslots : slots ≤ 7302249) (kk : ∀ (σ' μ' : mm_M) (H1 : Heap) (locs1 : List Loc), ml_W D cA gC gM s σ' μ' H1 locs1 → W p l e room_1 s m #[Value.ref b] below meth c H1 locs1 cells slots Q (F0 m 837 ls [])) : W p l e room_1 s m #[Value.ref b] below meth c H locs cells slots Q (F0 m 423 ls []) := by
  have hx := F.1.1
  have hb := F.1.2.1
  refine lv_aload_n hx hb dL_law_423 rfl (lv_at hl 2 rfl) ?_
  refine ml_arg F hl hi hw.2.2.2 (k := 1) (by decide) rfl dL_law_424 dL_law_425 dL_law_426 dL_law_427 dL_law_428 ?_
  refine ml_pair (jc := 55) (jm := 116) (i1 := 55) (i2 := 58) (pc2 := 438) (as := [.int (xs (i + 1))]) F hw (call_law (xs (i + 1))) hl.1 hcells hslots (by decide) rfl rfl rfl (ml_link _ (List.mem_of_getElem? (i := 18) rfl)) (by decide) rfl rfl rfl (ml_link _ (List.mem_of_getElem? (i := 19) rfl)) (fun _ => rfl) rfl dL_law_429 dL_law_438 dL_law_441 (by decide) (fun H1 locs1 r hS1 kk1 => ?_) kk
  refine lv_aload_n hx hb dL_law_432 rfl (lv_at hl 1 rfl) ?_
  refine ml_arg F hl hi hS1 (k := 1) (by decide) rfl dL_law_433 dL_law_434 dL_law_435 dL_law_436 dL_law_437 ?_
  exact kk1
set_option maxRecDepth 100000 in
theorem ml_k10 (F : ml_F D cA gC gM adV AC AM b L xs p s m meth c) (hl : lv_has ls 4 (ml_lv gC gM b i)) (hi : i + 4 ≤ L) (hw : ml_W D cA gC gM s σ μ H locs) (hcells : cells ≤ 600000) (hslots : slots ≤ 7302249) (kk : ∀ (σ' μ' : mm_M) (H1 : Heap) (locs1 : List Loc), ml_W D cA gC gM s σ' μ' H1 locs1 → W p l e room_1 s m #[Value.ref b] below meth c H1 locs1 cells slots Q (F0 m 837 ls [])) : W p l e room_1 s m #[Value.ref b] below meth c H locs cells slots Q (F0 m 446 ls []) := by
  have hx := F.1.1
  have hb := F.1.2.1
  refine lv_aload_n hx hb dL_law_446 rfl (lv_at hl 2 rfl) ?_
  refine ml_arg F hl hi hw.2.2.2 (k := 1) (by decide) rfl dL_law_447 dL_law_448 dL_law_449 dL_law_450 dL_law_451 ?_
  refine ml_pair (jc := 56) (jm := 117) (i1 := 59) (i2 := 62) (pc2 := 461) (as := [.int (xs (i + 1))]) F hw (call_price (xs (i + 1))) hl.1 hcells hslots (by decide) rfl rfl rfl (ml_link _ (List.mem_of_getElem? (i := 20) rfl)) (by decide) rfl rfl rfl (ml_link _ (List.mem_of_getElem? (i := 21) rfl)) (fun _ => rfl) rfl dL_law_452 dL_law_461 dL_law_464 (by decide) (fun H1 locs1 r hS1 kk1 => ?_) kk
  refine lv_aload_n hx hb dL_law_455 rfl (lv_at hl 1 rfl) ?_
  refine ml_arg F hl hi hS1 (k := 1) (by decide) rfl dL_law_456 dL_law_457 dL_law_458 dL_law_459 dL_law_460 ?_
  exact kk1
set_option maxRecDepth 100000 in
theorem ml_k11 (F : ml_F D cA gC gM adV AC AM b L xs p s m meth c) (hl : lv_has ls 4 (ml_lv gC gM b i)) (hi : i + 4 ≤ L) (hw : ml_W D cA gC gM s σ μ H locs) (hcells : cells ≤ 600000) (hslots : slots ≤ 7302249) (kk : ∀ (σ' μ' : mm_M) (H1 : Heap) (locs1 : List Loc), ml_W D cA gC gM s σ' μ' H1 locs1 → W p l e room_1 s m #[Value.ref b] below meth c H1 locs1 cells slots Q (F0 m 837 ls [])) : W p l e room_1 s m #[Value.ref b] below meth c H locs cells slots Q (F0 m 469 ls []) := by
  have hx := F.1.1
  have hb := F.1.2.1
  refine lv_aload_n hx hb dL_law_469 rfl (lv_at hl 2 rfl) ?_
  refine ml_arg F hl hi hw.2.2.2 (k := 1) (by decide) rfl dL_law_470 dL_law_471 dL_law_472 dL_law_473 dL_law_474 ?_
  refine ml_pair (jc := 57) (jm := 119) (i1 := 63) (i2 := 66) (pc2 := 484) (as := [.int (xs (i + 1))]) F hw (call_drift (xs (i + 1))) hl.1 hcells hslots (by decide) rfl rfl rfl (ml_link _ (List.mem_of_getElem? (i := 22) rfl)) (by decide) rfl rfl rfl (ml_link _ (List.mem_of_getElem? (i := 23) rfl)) (fun _ => rfl) rfl dL_law_475 dL_law_484 dL_law_487 (by decide) (fun H1 locs1 r hS1 kk1 => ?_) kk
  refine lv_aload_n hx hb dL_law_478 rfl (lv_at hl 1 rfl) ?_
  refine ml_arg F hl hi hS1 (k := 1) (by decide) rfl dL_law_479 dL_law_480 dL_law_481 dL_law_482 dL_law_483 ?_
  exact kk1
set_option maxRecDepth 100000 in
theorem ml_k12 (F : ml_F D cA gC gM adV AC AM b L xs p s m meth c) (hl : lv_has ls 4 (ml_lv gC gM b i)) (hi : i + 4 ≤ L) (hw : ml_W D cA gC gM s σ μ H locs) (hcells : cells ≤ 600000) (hslots : slots ≤ 7302249) (kk : ∀ (σ' μ' : mm_M) (H1 : Heap) (locs1 : List Loc), ml_W D cA gC gM s σ' μ' H1 locs1 → W p l e room_1 s m #[Value.ref b] below meth c H1 locs1 cells slots Q (F0 m 837 ls [])) : W p l e room_1 s m #[Value.ref b] below meth c H locs cells slots Q (F0 m 492 ls []) := by
  have hx := F.1.1
  have hb := F.1.2.1
  refine lv_aload_n hx hb dL_law_492 rfl (lv_at hl 2 rfl) ?_
  refine ml_arg F hl hi hw.2.2.2 (k := 1) (by decide) rfl dL_law_493 dL_law_494 dL_law_495 dL_law_496 dL_law_497 ?_
  refine ml_pair (jc := 58) (jm := 124) (i1 := 67) (i2 := 70) (pc2 := 507) (as := [.int (xs (i + 1))]) F hw (call_shortest (xs (i + 1))) hl.1 hcells hslots (by decide) rfl rfl rfl (ml_link _ (List.mem_of_getElem? (i := 24) rfl)) (by decide) rfl rfl rfl (ml_link _ (List.mem_of_getElem? (i := 25) rfl)) (fun _ => rfl) rfl dL_law_498 dL_law_507 dL_law_510 (by decide) (fun H1 locs1 r hS1 kk1 => ?_) kk
  refine lv_aload_n hx hb dL_law_501 rfl (lv_at hl 1 rfl) ?_
  refine ml_arg F hl hi hS1 (k := 1) (by decide) rfl dL_law_502 dL_law_503 dL_law_504 dL_law_505 dL_law_506 ?_
  exact kk1
set_option maxRecDepth 100000 in
theorem ml_k13 (F : ml_F D cA gC gM adV AC AM b L xs p s m meth c) (hl : lv_has ls 4 (ml_lv gC gM b i)) (hi : i + 4 ≤ L) (hw : ml_W D cA gC gM s σ μ H locs) (hcells : cells ≤ 600000) (hslots : slots ≤ 7302249) (kk : ∀ (σ' μ' : mm_M) (H1 : Heap) (locs1 : List Loc), ml_W D cA gC gM s σ' μ' H1 locs1 → W p l e room_1 s m #[Value.ref b] below meth c H1 locs1 cells slots Q (F0 m 837 ls [])) : W p l e room_1 s m #[Value.ref b] below meth c H locs cells slots Q (F0 m 515 ls []) := by
  have hx := F.1.1
  have hb := F.1.2.1
  refine lv_aload_n hx hb dL_law_515 rfl (lv_at hl 2 rfl) ?_
  refine ml_arg F hl hi hw.2.2.2 (k := 1) (by decide) rfl dL_law_516 dL_law_517 dL_law_518 dL_law_519 dL_law_520 ?_
  refine ml_pair (jc := 59) (jm := 125) (i1 := 71) (i2 := 74) (pc2 := 530) (as := [.int (xs (i + 1))]) F hw (call_inTime (xs (i + 1))) hl.1 hcells hslots (by decide) rfl rfl rfl (ml_link _ (List.mem_of_getElem? (i := 26) rfl)) (by decide) rfl rfl rfl (ml_link _ (List.mem_of_getElem? (i := 27) rfl)) (fun _ => rfl) rfl dL_law_521 dL_law_530 dL_law_533 (by decide) (fun H1 locs1 r hS1 kk1 => ?_) kk
  refine lv_aload_n hx hb dL_law_524 rfl (lv_at hl 1 rfl) ?_
  refine ml_arg F hl hi hS1 (k := 1) (by decide) rfl dL_law_525 dL_law_526 dL_law_527 dL_law_528 dL_law_529 ?_
  exact kk1
set_option maxRecDepth 100000 in
theorem ml_k14 (F : ml_F D cA gC gM adV AC AM b L xs p s m meth c) (hl : lv_has ls 4 (ml_lv gC gM b i)) (hi : i + 4 ≤ L) (hw : ml_W D cA gC gM s σ μ H locs) (hcells : cells ≤ 600000) (hslots : slots ≤ 7302249) (kk : ∀ (σ' μ' : mm_M) (H1 : Heap) (locs1 : List Loc), ml_W D cA gC gM s σ' μ' H1 locs1 → W p l e room_1 s m #[Value.ref b] below meth c H1 locs1 cells slots Q (F0 m 837 ls [])) : W p l e room_1 s m #[Value.ref b] below meth c H locs cells slots Q (F0 m 538 ls []) := by
  have hx := F.1.1
  have hb := F.1.2.1
  refine lv_aload_n hx hb dL_law_538 rfl (lv_at hl 2 rfl) ?_
  refine ml_arg F hl hi hw.2.2.2 (k := 1) (by decide) rfl dL_law_539 dL_law_540 dL_law_541 dL_law_542 dL_law_543 ?_
  refine ml_pair (jc := 60) (jm := 127) (i1 := 75) (i2 := 78) (pc2 := 553) (as := [.int (xs (i + 1))]) F hw (call_answer (xs (i + 1))) hl.1 hcells hslots (by decide) rfl rfl rfl (ml_link _ (List.mem_of_getElem? (i := 28) rfl)) (by decide) rfl rfl rfl (ml_link _ (List.mem_of_getElem? (i := 29) rfl)) (fun _ => rfl) rfl dL_law_544 dL_law_553 dL_law_556 (by decide) (fun H1 locs1 r hS1 kk1 => ?_) kk
  refine lv_aload_n hx hb dL_law_547 rfl (lv_at hl 1 rfl) ?_
  refine ml_arg F hl hi hS1 (k := 1) (by decide) rfl dL_law_548 dL_law_549 dL_law_550 dL_law_551 dL_law_552 ?_
  exact kk1
set_option maxRecDepth 100000 in
theorem ml_k15 (F : ml_F D cA gC gM adV AC AM b L xs p s m meth c) (hl : lv_has ls 4 (ml_lv gC gM b i)) (hi : i + 4 ≤ L) (hw : ml_W D cA gC gM s σ μ H locs) (hcells : cells ≤ 600000) (hslots : slots ≤ 7302249) (kk : ∀ (σ' μ' : mm_M) (H1 : Heap) (locs1 : List Loc), ml_W D cA gC gM s σ' μ' H1 locs1 → W p l e room_1 s m #[Value.ref b] below meth c H1 locs1 cells slots Q (F0 m 837 ls [])) : W p l e room_1 s m #[Value.ref b] below meth c H locs cells slots Q (F0 m 561 ls []) := by
  have hx := F.1.1
  have hb := F.1.2.1
  refine lv_aload_n hx hb dL_law_561 rfl (lv_at hl 2 rfl) ?_
  refine ml_arg F hl hi hw.2.2.2 (k := 1) (by decide) rfl dL_law_562 dL_law_563 dL_law_564 dL_law_565 dL_law_566 ?_
  refine ml_pair (jc := 61) (jm := 131) (i1 := 79) (i2 := 82) (pc2 := 576) (as := [.int (xs (i + 1))]) F hw (call_rests (xs (i + 1))) hl.1 hcells hslots (by decide) rfl rfl rfl (ml_link _ (List.mem_of_getElem? (i := 30) rfl)) (by decide) rfl rfl rfl (ml_link _ (List.mem_of_getElem? (i := 31) rfl)) (fun _ => rfl) rfl dL_law_567 dL_law_576 dL_law_579 (by decide) (fun H1 locs1 r hS1 kk1 => ?_) kk
  refine lv_aload_n hx hb dL_law_570 rfl (lv_at hl 1 rfl) ?_
  refine ml_arg F hl hi hS1 (k := 1) (by decide) rfl dL_law_571 dL_law_572 dL_law_573 dL_law_574 dL_law_575 ?_
  exact kk1
set_option maxRecDepth 100000 in
theorem ml_k16 (F : ml_F D cA gC gM adV AC AM b L xs p s m meth c) (hl : lv_has ls 4 (ml_lv gC gM b i)) (hi : i + 4 ≤ L) (hw : ml_W D cA gC gM s σ μ H locs) (hcells : cells ≤ 600000) (hslots : slots ≤ 7302249) (kk : ∀ (σ' μ' : mm_M) (H1 : Heap) (locs1 : List Loc), ml_W D cA gC gM s σ' μ' H1 locs1 → W p l e room_1 s m #[Value.ref b] below meth c H1 locs1 cells slots Q (F0 m 837 ls [])) : W p l e room_1 s m #[Value.ref b] below meth c H locs cells slots Q (F0 m 584 ls []) := by
  have hx := F.1.1
  have hb := F.1.2.1
  refine lv_aload_n hx hb dL_law_584 rfl (lv_at hl 2 rfl) ?_
  refine ml_pair (jc := 62) (jm := 132) (i1 := 83) (i2 := 86) (pc2 := 589) (as := []) F hw (call_best) hl.1 hcells hslots (by decide) rfl rfl rfl (ml_link _ (List.mem_of_getElem? (i := 32) rfl)) (by decide) rfl rfl rfl (ml_link _ (List.mem_of_getElem? (i := 33) rfl)) (fun _ => rfl) rfl dL_law_585 dL_law_589 dL_law_592 (by decide) (fun H1 locs1 r hS1 kk1 => ?_) kk
  refine lv_aload_n hx hb dL_law_588 rfl (lv_at hl 1 rfl) ?_
  exact kk1
set_option maxRecDepth 100000 in
theorem ml_k17 (F : ml_F D cA gC gM adV AC AM b L xs p s m meth c) (hl : lv_has ls 4 (ml_lv gC gM b i)) (hi : i + 4 ≤ L) (hw : ml_W D cA gC gM s σ μ H locs) (hcells : cells ≤ 600000) (hslots : slots ≤ 7302249) (kk : ∀ (σ' μ' : mm_M) (H1 : Heap) (locs1 : List Loc), ml_W D cA gC gM s σ' μ' H1 locs1 → W p l e room_1 s m #[Value.ref b] below meth c H1 locs1 cells slots Q (F0 m 837 ls [])) : W p l e room_1 s m #[Value.ref b] below meth c H locs cells slots Q (F0 m 597 ls []) := by
  have hx := F.1.1
  have hb := F.1.2.1
  refine lv_aload_n hx hb dL_law_597 rfl (lv_at hl 2 rfl) ?_
  refine ml_arg F hl hi hw.2.2.2 (k := 1) (by decide) rfl dL_law_598 dL_law_599 dL_law_600 dL_law_601 dL_law_602 ?_
  refine ml_arg F hl hi hw.2.2.2 (k := 2) (by decide) rfl dL_law_603 dL_law_604 dL_law_605 dL_law_606 dL_law_607 ?_
  refine ml_pair (jc := 63) (jm := 133) (i1 := 87) (i2 := 90) (pc2 := 622) (as := [.int (xs (i + 1)), .int (xs (i + 2))]) F hw (call_agreed (xs (i + 1)) (xs (i + 2))) hl.1 hcells hslots (by decide) rfl rfl rfl (ml_link _ (List.mem_of_getElem? (i := 34) rfl)) (by decide) rfl rfl rfl (ml_link _ (List.mem_of_getElem? (i := 35) rfl)) (fun _ => rfl) rfl dL_law_608 dL_law_622 dL_law_625 (by decide) (fun H1 locs1 r hS1 kk1 => ?_) kk
  refine lv_aload_n hx hb dL_law_611 rfl (lv_at hl 1 rfl) ?_
  refine ml_arg F hl hi hS1 (k := 1) (by decide) rfl dL_law_612 dL_law_613 dL_law_614 dL_law_615 dL_law_616 ?_
  refine ml_arg F hl hi hS1 (k := 2) (by decide) rfl dL_law_617 dL_law_618 dL_law_619 dL_law_620 dL_law_621 ?_
  exact kk1
set_option maxRecDepth 100000 in
theorem ml_k18 (F : ml_F D cA gC gM adV AC AM b L xs p s m meth c) (hl : lv_has ls 4 (ml_lv gC gM b i)) (hi : i + 4 ≤ L) (hw : ml_W D cA gC gM s σ μ H locs) (hcells : cells ≤ 600000) (hslots : slots ≤ 7302249) (kk : ∀ (σ' μ' : mm_M) (H1 : Heap) (locs1 : List Loc), ml_W D cA gC gM s σ' μ' H1 locs1 → W p l e room_1 s m #[Value.ref b] below meth c H1 locs1 cells slots Q (F0 m 837 ls [])) : W p l e room_1 s m #[Value.ref b] below meth c H locs cells slots Q (F0 m 630 ls []) := by
  have hx := F.1.1
  have hb := F.1.2.1
  refine lv_aload_n hx hb dL_law_630 rfl (lv_at hl 2 rfl) ?_
  refine ml_arg F hl hi hw.2.2.2 (k := 1) (by decide) rfl dL_law_631 dL_law_632 dL_law_633 dL_law_634 dL_law_635 ?_
  refine ml_pair (jc := 64) (jm := 134) (i1 := 91) (i2 := 94) (pc2 := 645) (as := [.int (xs (i + 1))]) F hw (call_two (xs (i + 1))) hl.1 hcells hslots (by decide) rfl rfl rfl (ml_link _ (List.mem_of_getElem? (i := 36) rfl)) (by decide) rfl rfl rfl (ml_link _ (List.mem_of_getElem? (i := 37) rfl)) (fun _ => rfl) rfl dL_law_636 dL_law_645 dL_law_648 (by decide) (fun H1 locs1 r hS1 kk1 => ?_) kk
  refine lv_aload_n hx hb dL_law_639 rfl (lv_at hl 1 rfl) ?_
  refine ml_arg F hl hi hS1 (k := 1) (by decide) rfl dL_law_640 dL_law_641 dL_law_642 dL_law_643 dL_law_644 ?_
  exact kk1
set_option maxRecDepth 100000 in
theorem ml_k19 (F : ml_F D cA gC gM adV AC AM b L xs p s m meth c) (hl : lv_has ls 4 (ml_lv gC gM b i)) (hi : i + 4 ≤ L) (hw : ml_W D cA gC gM s σ μ H locs) (hcells : cells ≤ 600000) (hslots : slots ≤ 7302249) (kk : ∀ (σ' μ' : mm_M) (H1 : Heap) (locs1 : List Loc), ml_W D cA gC gM s σ' μ' H1 locs1 → W p l e room_1 s m #[Value.ref b] below meth c H1 locs1 cells slots Q (F0 m 837 ls [])) : W p l e room_1 s m #[Value.ref b] below meth c H locs cells slots Q (F0 m 653 ls []) := by
  have hx := F.1.1
  have hb := F.1.2.1
  refine lv_aload_n hx hb dL_law_653 rfl (lv_at hl 2 rfl) ?_
  refine ml_arg F hl hi hw.2.2.2 (k := 1) (by decide) rfl dL_law_654 dL_law_655 dL_law_656 dL_law_657 dL_law_658 ?_
  refine ml_pair (jc := 65) (jm := 135) (i1 := 95) (i2 := 98) (pc2 := 668) (as := [.int (xs (i + 1))]) F hw (call_came (xs (i + 1))) hl.1 hcells hslots (by decide) rfl rfl rfl (ml_link _ (List.mem_of_getElem? (i := 38) rfl)) (by decide) rfl rfl rfl (ml_link _ (List.mem_of_getElem? (i := 39) rfl)) (fun _ => rfl) rfl dL_law_659 dL_law_668 dL_law_671 (by decide) (fun H1 locs1 r hS1 kk1 => ?_) kk
  refine lv_aload_n hx hb dL_law_662 rfl (lv_at hl 1 rfl) ?_
  refine ml_arg F hl hi hS1 (k := 1) (by decide) rfl dL_law_663 dL_law_664 dL_law_665 dL_law_666 dL_law_667 ?_
  exact kk1
set_option maxRecDepth 100000 in
theorem ml_k20 (F : ml_F D cA gC gM adV AC AM b L xs p s m meth c) (hl : lv_has ls 4 (ml_lv gC gM b i)) (hi : i + 4 ≤ L) (hw : ml_W D cA gC gM s σ μ H locs) (hcells : cells ≤ 600000) (hslots : slots ≤ 7302249) (kk : ∀ (σ' μ' : mm_M) (H1 : Heap) (locs1 : List Loc), ml_W D cA gC gM s σ' μ' H1 locs1 → W p l e room_1 s m #[Value.ref b] below meth c H1 locs1 cells slots Q (F0 m 837 ls [])) : W p l e room_1 s m #[Value.ref b] below meth c H locs cells slots Q (F0 m 676 ls []) := by
  have hx := F.1.1
  have hb := F.1.2.1
  refine lv_aload_n hx hb dL_law_676 rfl (lv_at hl 2 rfl) ?_
  refine ml_arg F hl hi hw.2.2.2 (k := 1) (by decide) rfl dL_law_677 dL_law_678 dL_law_679 dL_law_680 dL_law_681 ?_
  refine ml_arg F hl hi hw.2.2.2 (k := 2) (by decide) rfl dL_law_682 dL_law_683 dL_law_684 dL_law_685 dL_law_686 ?_
  refine ml_pair (jc := 66) (jm := 137) (i1 := 99) (i2 := 102) (pc2 := 701) (as := [.int (xs (i + 1)), .int (xs (i + 2))]) F hw (call_ends (xs (i + 1)) (xs (i + 2))) hl.1 hcells hslots (by decide) rfl rfl rfl (ml_link _ (List.mem_of_getElem? (i := 40) rfl)) (by decide) rfl rfl rfl (ml_link _ (List.mem_of_getElem? (i := 41) rfl)) (fun _ => rfl) rfl dL_law_687 dL_law_701 dL_law_704 (by decide) (fun H1 locs1 r hS1 kk1 => ?_) kk
  refine lv_aload_n hx hb dL_law_690 rfl (lv_at hl 1 rfl) ?_
  refine ml_arg F hl hi hS1 (k := 1) (by decide) rfl dL_law_691 dL_law_692 dL_law_693 dL_law_694 dL_law_695 ?_
  refine ml_arg F hl hi hS1 (k := 2) (by decide) rfl dL_law_696 dL_law_697 dL_law_698 dL_law_699 dL_law_700 ?_
  exact kk1
set_option maxRecDepth 100000 in
theorem ml_k21 (F : ml_F D cA gC gM adV AC AM b L xs p s m meth c) (hl : lv_has ls 4 (ml_lv gC gM b i)) (hi : i + 4 ≤ L) (hw : ml_W D cA gC gM s σ μ H locs) (hcells : cells ≤ 600000) (hslots : slots ≤ 7302249) (kk : ∀ (σ' μ' : mm_M) (H1 : Heap) (locs1 : List Loc), ml_W D cA gC gM s σ' μ' H1 locs1 → W p l e room_1 s m #[Value.ref b] below meth c H1 locs1 cells slots Q (F0 m 837 ls [])) : W p l e room_1 s m #[Value.ref b] below meth c H locs cells slots Q (F0 m 709 ls []) := by
  have hx := F.1.1
  have hb := F.1.2.1
  refine lv_aload_n hx hb dL_law_709 rfl (lv_at hl 2 rfl) ?_
  refine ml_arg F hl hi hw.2.2.2 (k := 1) (by decide) rfl dL_law_710 dL_law_711 dL_law_712 dL_law_713 dL_law_714 ?_
  refine ml_arg F hl hi hw.2.2.2 (k := 2) (by decide) rfl dL_law_715 dL_law_716 dL_law_717 dL_law_718 dL_law_719 ?_
  refine ml_pair (jc := 67) (jm := 138) (i1 := 103) (i2 := 106) (pc2 := 734) (as := [.int (xs (i + 1)), .int (xs (i + 2))]) F hw (call_write (xs (i + 1)) (xs (i + 2))) hl.1 hcells hslots (by decide) rfl rfl rfl (ml_link _ (List.mem_of_getElem? (i := 42) rfl)) (by decide) rfl rfl rfl (ml_link _ (List.mem_of_getElem? (i := 43) rfl)) (fun _ => rfl) rfl dL_law_720 dL_law_734 dL_law_737 (by decide) (fun H1 locs1 r hS1 kk1 => ?_) kk
  refine lv_aload_n hx hb dL_law_723 rfl (lv_at hl 1 rfl) ?_
  refine ml_arg F hl hi hS1 (k := 1) (by decide) rfl dL_law_724 dL_law_725 dL_law_726 dL_law_727 dL_law_728 ?_
  refine ml_arg F hl hi hS1 (k := 2) (by decide) rfl dL_law_729 dL_law_730 dL_law_731 dL_law_732 dL_law_733 ?_
  exact kk1
set_option maxRecDepth 100000 in
theorem ml_k22 (F : ml_F D cA gC gM adV AC AM b L xs p s m meth c) (hl : lv_has ls 4 (ml_lv gC gM b i)) (hi : i + 4 ≤ L) (hw : ml_W D cA gC gM s σ μ H locs) (hcells : cells ≤ 600000) (hslots : slots ≤ 7302249) (kk : ∀ (σ' μ' : mm_M) (H1 : Heap) (locs1 : List Loc), ml_W D cA gC gM s σ' μ' H1 locs1 → W p l e room_1 s m #[Value.ref b] below meth c H1 locs1 cells slots Q (F0 m 837 ls [])) : W p l e room_1 s m #[Value.ref b] below meth c H locs cells slots Q (F0 m 742 ls []) := by
  have hx := F.1.1
  have hb := F.1.2.1
  refine lv_aload_n hx hb dL_law_742 rfl (lv_at hl 2 rfl) ?_
  refine ml_pair (jc := 68) (jm := 139) (i1 := 107) (i2 := 110) (pc2 := 747) (as := []) F hw (call_tear) hl.1 hcells hslots (by decide) rfl rfl rfl (ml_link _ (List.mem_of_getElem? (i := 44) rfl)) (by decide) rfl rfl rfl (ml_link _ (List.mem_of_getElem? (i := 45) rfl)) (fun _ => rfl) rfl dL_law_743 dL_law_747 dL_law_750 (by decide) (fun H1 locs1 r hS1 kk1 => ?_) kk
  refine lv_aload_n hx hb dL_law_746 rfl (lv_at hl 1 rfl) ?_
  exact kk1
set_option maxRecDepth 100000 in
theorem ml_k23 (F : ml_F D cA gC gM adV AC AM b L xs p s m meth c) (hl : lv_has ls 4 (ml_lv gC gM b i)) (hi : i + 4 ≤ L) (hw : ml_W D cA gC gM s σ μ H locs) (hcells : cells ≤ 600000) (hslots : slots ≤ 7302249) (kk : ∀ (σ' μ' : mm_M) (H1 : Heap) (locs1 : List Loc), ml_W D cA gC gM s σ' μ' H1 locs1 → W p l e room_1 s m #[Value.ref b] below meth c H1 locs1 cells slots Q (F0 m 837 ls [])) : W p l e room_1 s m #[Value.ref b] below meth c H locs cells slots Q (F0 m 755 ls []) := by
  have hx := F.1.1
  have hb := F.1.2.1
  refine lv_aload_n hx hb dL_law_755 rfl (lv_at hl 2 rfl) ?_
  refine ml_pair (jc := 69) (jm := 140) (i1 := 111) (i2 := 114) (pc2 := 760) (as := []) F hw (call_judge) hl.1 hcells hslots (by decide) rfl rfl rfl (ml_link _ (List.mem_of_getElem? (i := 46) rfl)) (by decide) rfl rfl rfl (ml_link _ (List.mem_of_getElem? (i := 47) rfl)) (fun _ => rfl) rfl dL_law_756 dL_law_760 dL_law_763 (by decide) (fun H1 locs1 r hS1 kk1 => ?_) kk
  refine lv_aload_n hx hb dL_law_759 rfl (lv_at hl 1 rfl) ?_
  exact kk1
set_option maxRecDepth 100000 in
theorem ml_k24 (F : ml_F D cA gC gM adV AC AM b L xs p s m meth c) (hl : lv_has ls 4 (ml_lv gC gM b i)) (hi : i + 4 ≤ L) (hw : ml_W D cA gC gM s σ μ H locs) (hcells : cells ≤ 600000) (hslots : slots ≤ 7302249) (kk : ∀ (σ' μ' : mm_M) (H1 : Heap) (locs1 : List Loc), ml_W D cA gC gM s σ' μ' H1 locs1 → W p l e room_1 s m #[Value.ref b] below meth c H1 locs1 cells slots Q (F0 m 837 ls [])) : W p l e room_1 s m #[Value.ref b] below meth c H locs cells slots Q (F0 m 768 ls []) := by
  have hx := F.1.1
  have hb := F.1.2.1
  refine lv_aload_n hx hb dL_law_768 rfl (lv_at hl 2 rfl) ?_
  refine ml_arg F hl hi hw.2.2.2 (k := 1) (by decide) rfl dL_law_769 dL_law_770 dL_law_771 dL_law_772 dL_law_773 ?_
  refine ml_pair (jc := 70) (jm := 141) (i1 := 115) (i2 := 118) (pc2 := 783) (as := [.int (xs (i + 1))]) F hw (call_seed (xs (i + 1))) hl.1 hcells hslots (by decide) rfl rfl rfl (ml_link _ (List.mem_of_getElem? (i := 48) rfl)) (by decide) rfl rfl rfl (ml_link _ (List.mem_of_getElem? (i := 49) rfl)) (fun _ => rfl) rfl dL_law_774 dL_law_783 dL_law_786 (by decide) (fun H1 locs1 r hS1 kk1 => ?_) kk
  refine lv_aload_n hx hb dL_law_777 rfl (lv_at hl 1 rfl) ?_
  refine ml_arg F hl hi hS1 (k := 1) (by decide) rfl dL_law_778 dL_law_779 dL_law_780 dL_law_781 dL_law_782 ?_
  exact kk1
set_option maxRecDepth 100000 in
theorem ml_k25 (F : ml_F D cA gC gM adV AC AM b L xs p s m meth c) (hl : lv_has ls 4 (ml_lv gC gM b i)) (hi : i + 4 ≤ L) (hw : ml_W D cA gC gM s σ μ H locs) (hcells : cells ≤ 600000) (hslots : slots ≤ 7302249) (kk : ∀ (σ' μ' : mm_M) (H1 : Heap) (locs1 : List Loc), ml_W D cA gC gM s σ' μ' H1 locs1 → W p l e room_1 s m #[Value.ref b] below meth c H1 locs1 cells slots Q (F0 m 837 ls [])) : W p l e room_1 s m #[Value.ref b] below meth c H locs cells slots Q (F0 m 791 ls []) := by
  have hx := F.1.1
  have hb := F.1.2.1
  refine lv_aload_n hx hb dL_law_791 rfl (lv_at hl 2 rfl) ?_
  refine ml_arg F hl hi hw.2.2.2 (k := 1) (by decide) rfl dL_law_792 dL_law_793 dL_law_794 dL_law_795 dL_law_796 ?_
  refine ml_pair (jc := 71) (jm := 142) (i1 := 119) (i2 := 122) (pc2 := 806) (as := [.int (xs (i + 1))]) F hw (call_keep (xs (i + 1))) hl.1 hcells hslots (by decide) rfl rfl rfl (ml_link _ (List.mem_of_getElem? (i := 50) rfl)) (by decide) rfl rfl rfl (ml_link _ (List.mem_of_getElem? (i := 51) rfl)) (fun _ => rfl) rfl dL_law_797 dL_law_806 dL_law_809 (by decide) (fun H1 locs1 r hS1 kk1 => ?_) kk
  refine lv_aload_n hx hb dL_law_800 rfl (lv_at hl 1 rfl) ?_
  refine ml_arg F hl hi hS1 (k := 1) (by decide) rfl dL_law_801 dL_law_802 dL_law_803 dL_law_804 dL_law_805 ?_
  exact kk1
set_option maxRecDepth 100000 in
theorem ml_k26 (F : ml_F D cA gC gM adV AC AM b L xs p s m meth c) (hl : lv_has ls 4 (ml_lv gC gM b i)) (hi : i + 4 ≤ L) (hw : ml_W D cA gC gM s σ μ H locs) (hcells : cells ≤ 600000) (hslots : slots ≤ 7302249) (kk : ∀ (σ' μ' : mm_M) (H1 : Heap) (locs1 : List Loc), ml_W D cA gC gM s σ' μ' H1 locs1 → W p l e room_1 s m #[Value.ref b] below meth c H1 locs1 cells slots Q (F0 m 837 ls [])) : W p l e room_1 s m #[Value.ref b] below meth c H locs cells slots Q (F0 m 814 ls []) := by
  have hx := F.1.1
  have hb := F.1.2.1
  refine lv_aload_n hx hb dL_law_814 rfl (lv_at hl 2 rfl) ?_
  refine ml_arg F hl hi hw.2.2.2 (k := 1) (by decide) rfl dL_law_815 dL_law_816 dL_law_817 dL_law_818 dL_law_819 ?_
  refine ml_pair (jc := 72) (jm := 143) (i1 := 123) (i2 := 126) (pc2 := 829) (as := [.int (xs (i + 1))]) F hw (call_goBack (xs (i + 1))) hl.1 hcells hslots (by decide) rfl rfl rfl (ml_link _ (List.mem_of_getElem? (i := 52) rfl)) (by decide) rfl rfl rfl (ml_link _ (List.mem_of_getElem? (i := 53) rfl)) (fun _ => rfl) rfl dL_law_820 dL_law_829 dL_law_832 (by decide) (fun H1 locs1 r hS1 kk1 => ?_) kk
  refine lv_aload_n hx hb dL_law_823 rfl (lv_at hl 1 rfl) ?_
  refine ml_arg F hl hi hS1 (k := 1) (by decide) rfl dL_law_824 dL_law_825 dL_law_826 dL_law_827 dL_law_828 ?_
  exact kk1
set_option maxRecDepth 100000 in
theorem ml_switch (F : ml_F D cA gC gM adV AC AM b L xs p s m meth c) (hl : lv_has ls 4 (ml_lv gC gM b i)) (hi : i + 4 ≤ L) (hw : ml_W D cA gC gM s σ μ H locs) (hcells : cells ≤ 600000) (hslots : slots ≤ 7302249) (z : Int32) (kk : ∀ (σ' μ' : mm_M) (H1 : Heap) (locs1 : List Loc), ml_W D cA gC gM s σ' μ' H1 locs1 → W p l e room_1 s m #[Value.ref b] below meth c H1 locs1 cells slots Q (F0 m 837 ls [])) : W p l e room_1 s m #[Value.ref b] below meth c H locs cells slots Q (F0 m 32 ls [.int z]) := by
  have hx := F.1.1
  have hb := F.1.2.1
  by_cases hz : z.toInt < 0 ∨ 26 < z.toInt
  · exact lv_tableOut (tgt := 837) hx hb dL_law_32 hz (by decide) (kk σ μ H locs hw)
  have hz1 : ¬ z.toInt < 0 := fun q => hz (Or.inl q)
  have hz2 : ¬ 26 < z.toInt := fun q => hz (Or.inr q)
  have hc : z.toInt = 0 ∨ z.toInt = 1 ∨ z.toInt = 2 ∨ z.toInt = 3 ∨ z.toInt = 4 ∨ z.toInt = 5 ∨ z.toInt = 6 ∨ z.toInt = 7 ∨ z.toInt = 8 ∨ z.toInt = 9 ∨ z.toInt = 10 ∨ z.toInt = 11 ∨ z.toInt = 12 ∨ z.toInt = 13 ∨ z.toInt = 14 ∨ z.toInt = 15 ∨ z.toInt = 16 ∨ z.toInt = 17 ∨ z.toInt = 18 ∨ z.toInt = 19 ∨ z.toInt = 20 ∨ z.toInt = 21 ∨ z.toInt = 22 ∨ z.toInt = 23 ∨ z.toInt = 24 ∨ z.toInt = 25 ∨ z.toInt = 26 := by omega
  rcases hc with q | q | q | q | q | q | q | q | q | q | q | q | q | q | q | q | q | q | q | q | q | q | q | q | q | q | q
  · exact lv_tableIn (off := 124) (tgt := 156) hx hb dL_law_32 hz1 hz2 (by rw [q]; rfl) (by decide) (ml_k0 F hl hi hw hcells hslots kk)
  · exact lv_tableIn (off := 187) (tgt := 219) hx hb dL_law_32 hz1 hz2 (by rw [q]; rfl) (by decide) (ml_k1 F hl hi hw hcells hslots kk)
  · exact lv_tableIn (off := 200) (tgt := 232) hx hb dL_law_32 hz1 hz2 (by rw [q]; rfl) (by decide) (ml_k2 F hl hi hw hcells hslots kk)
  · exact lv_tableIn (off := 213) (tgt := 245) hx hb dL_law_32 hz1 hz2 (by rw [q]; rfl) (by decide) (ml_k3 F hl hi hw hcells hslots kk)
  · exact lv_tableIn (off := 236) (tgt := 268) hx hb dL_law_32 hz1 hz2 (by rw [q]; rfl) (by decide) (ml_k4 F hl hi hw hcells hslots kk)
  · exact lv_tableIn (off := 269) (tgt := 301) hx hb dL_law_32 hz1 hz2 (by rw [q]; rfl) (by decide) (ml_k5 F hl hi hw hcells hslots kk)
  · exact lv_tableIn (off := 302) (tgt := 334) hx hb dL_law_32 hz1 hz2 (by rw [q]; rfl) (by decide) (ml_k6 F hl hi hw hcells hslots kk)
  · exact lv_tableIn (off := 335) (tgt := 367) hx hb dL_law_32 hz1 hz2 (by rw [q]; rfl) (by decide) (ml_k7 F hl hi hw hcells hslots kk)
  · exact lv_tableIn (off := 358) (tgt := 390) hx hb dL_law_32 hz1 hz2 (by rw [q]; rfl) (by decide) (ml_k8 F hl hi hw hcells hslots kk)
  · exact lv_tableIn (off := 391) (tgt := 423) hx hb dL_law_32 hz1 hz2 (by rw [q]; rfl) (by decide) (ml_k9 F hl hi hw hcells hslots kk)
  · exact lv_tableIn (off := 414) (tgt := 446) hx hb dL_law_32 hz1 hz2 (by rw [q]; rfl) (by decide) (ml_k10 F hl hi hw hcells hslots kk)
  · exact lv_tableIn (off := 437) (tgt := 469) hx hb dL_law_32 hz1 hz2 (by rw [q]; rfl) (by decide) (ml_k11 F hl hi hw hcells hslots kk)
  · exact lv_tableIn (off := 460) (tgt := 492) hx hb dL_law_32 hz1 hz2 (by rw [q]; rfl) (by decide) (ml_k12 F hl hi hw hcells hslots kk)
  · exact lv_tableIn (off := 483) (tgt := 515) hx hb dL_law_32 hz1 hz2 (by rw [q]; rfl) (by decide) (ml_k13 F hl hi hw hcells hslots kk)
  · exact lv_tableIn (off := 506) (tgt := 538) hx hb dL_law_32 hz1 hz2 (by rw [q]; rfl) (by decide) (ml_k14 F hl hi hw hcells hslots kk)
  · exact lv_tableIn (off := 529) (tgt := 561) hx hb dL_law_32 hz1 hz2 (by rw [q]; rfl) (by decide) (ml_k15 F hl hi hw hcells hslots kk)
  · exact lv_tableIn (off := 552) (tgt := 584) hx hb dL_law_32 hz1 hz2 (by rw [q]; rfl) (by decide) (ml_k16 F hl hi hw hcells hslots kk)
  · exact lv_tableIn (off := 565) (tgt := 597) hx hb dL_law_32 hz1 hz2 (by rw [q]; rfl) (by decide) (ml_k17 F hl hi hw hcells hslots kk)
  · exact lv_tableIn (off := 598) (tgt := 630) hx hb dL_law_32 hz1 hz2 (by rw [q]; rfl) (by decide) (ml_k18 F hl hi hw hcells hslots kk)
  · exact lv_tableIn (off := 621) (tgt := 653) hx hb dL_law_32 hz1 hz2 (by rw [q]; rfl) (by decide) (ml_k19 F hl hi hw hcells hslots kk)
  · exact lv_tableIn (off := 644) (tgt := 676) hx hb dL_law_32 hz1 hz2 (by rw [q]; rfl) (by decide) (ml_k20 F hl hi hw hcells hslots kk)
  · exact lv_tableIn (off := 677) (tgt := 709) hx hb dL_law_32 hz1 hz2 (by rw [q]; rfl) (by decide) (ml_k21 F hl hi hw hcells hslots kk)
  · exact lv_tableIn (off := 710) (tgt := 742) hx hb dL_law_32 hz1 hz2 (by rw [q]; rfl) (by decide) (ml_k22 F hl hi hw hcells hslots kk)
  · exact lv_tableIn (off := 723) (tgt := 755) hx hb dL_law_32 hz1 hz2 (by rw [q]; rfl) (by decide) (ml_k23 F hl hi hw hcells hslots kk)
  · exact lv_tableIn (off := 736) (tgt := 768) hx hb dL_law_32 hz1 hz2 (by rw [q]; rfl) (by decide) (ml_k24 F hl hi hw hcells hslots kk)
  · exact lv_tableIn (off := 759) (tgt := 791) hx hb dL_law_32 hz1 hz2 (by rw [q]; rfl) (by decide) (ml_k25 F hl hi hw hcells hslots kk)
  · exact lv_tableIn (off := 782) (tgt := 814) hx hb dL_law_32 hz1 hz2 (by rw [q]; rfl) (by decide) (ml_k26 F hl hi hw hcells hslots kk)
end MLC
