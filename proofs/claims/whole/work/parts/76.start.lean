/-! THE LAW, FROM ITS ENTRY -/
section MLN
variable {p : Program} {l : Launch} {e : Env} {s : State} {m : MethodId} {below : List Frame} {meth : Method} {c : Code} {H : Heap} {locs : List Loc} {cells slots : Nat} {Q : State → Prop} {pc : Nat} {ls : Array Slot} {D : va_G} {cA : FieldType → ClassId} {b L : Nat} {xs : Nat → Int32}
theorem ml_new {ci idxn idxc mcj msj : Nat} {fsj : List Value} {sh : List mm_H} {σ : mm_M} {Rj : Room} {ws : va_W} (C0 : lw_At p s m meth c b L xs) (hK : va_K D vwCl (mm_tys cA) s) (hN : mc_N s) (hM : mc_Met l D cA ci fsj sh σ Rj mcj msj) (hci : ci < 8) (hfs : ∀ j, j < mm_NN ci → defaultValue (mm_ty ci j) = vp_V fsj j) (hcl : Cond.classLink R_law idxn (mm_R ci) ∈ lw_tbl) (hlk : Cond.methodLink R_law idxc (mc_y ci) ∈ lw_tbl) (hrc : Rj.cells = mcj) (hrs : Rj.slots = msj) (hR : Rj.frames + 1 ≤ room_1.frames ∧ 8 + (1 + 11) + Rj.locals ≤ room_1.locals)
    (hd1 : decode code pc = .ok (.new idxn, 3)) (hd2 : decode code (pc + 3) = .ok (.dup, 1)) (hd3 : decode code (pc + 3 + 1) = .ok (.invokespecial idxc, 3)) (hsz : ls.size = 4) (hcells : cells + 1 + mcj ≤ 600000) (hslots : slots + mm_NN ci + msj ≤ 7302249) (hP : va_P D vwCl ws H) (hD : va_D (ml_A s) ws) (hS : va_S (ml_A s) s.heap H locs)
    (kk : ∀ (g : Nat → Nat) (H1 : Heap) (locs1 : List Loc), va_P D vwCl (ws ++ mm_ws sh g cA σ) H1 → va_D (ml_A s) (ws ++ mm_ws sh g cA σ) → va_S (ml_A s) s.heap H1 locs1 → W p l e room_1 s m #[Value.ref b] below meth c H1 locs1 (cells + 1 + mcj) (slots + mm_NN ci + msj) Q (F0 m (pc + 3 + 1 + 3) ls [.ref (g 0)])) : W p l e room_1 s m #[Value.ref b] below meth c H locs cells slots Q (F0 m pc ls []) := by
  obtain ⟨hx, hb, hr, hml, hown, hts, hX, hbl, hlocks, hgv⟩ := C0
  have hw : ∀ w ∈ mm_ws0, w.before #[Value.ref b] s = true := fun w q => hts w (mm_ws0_in q)
  have hA : ∀ q : Nat, s.heap.size ≤ q → ml_A s q := fun q h => h
  refine va_new (ci := ci) (fs := fsj) hx hb hw (mm_u_in hci) (mm_ty ci) (mm_tyok hci) hown (hts _ hcl) (hw _ (mc_able hci)) (hw _ (mc_ini hci)) hK hP hD hS hA (mm_cl hci) hfs (by show cells + 1 ≤ 600000; omega) (by show slots + mm_NN ci ≤ 7302249; omega) hd1 (fun q H hP hD hS => ?_)
  refine lv_dup hx hb hd2 rfl ?_
  have hF : ∀ x, va_A [(q, .inr (ci, fsj))] H.size x → ml_A s x := fun x hx => by
    rcases hx with ⟨j, e2, z⟩ | z
    · have hj : j = 0 := by
        have h1 := (List.getElem?_eq_some_iff.mp z).1
        simp at h1
        exact h1
      subst hj
      cases z
      exact hD.2 _ (q, .inr (ci, fsj)) (List.getElem?_concat_length (l := ws))
    · exact hA x (Nat.le_trans hS.1 z)
  have hPq : va_P D vwCl [(q, .inr (ci, fsj))] H := fun k x hx => by
    match k, hx with
    | 0, hx => cases hx; exact hP _ _ (List.getElem?_concat_length (l := ws))
    | k + 1, hx => simp at hx
  have hcls : ∀ cj, cj < 8 → mm_R cj ≠ "java/lang/invoke/MethodHandle" ∧ mm_R cj ≠ "java/lang/invoke/VarHandle" := by decide +kernel
  have hG : GoodIn lw_tbl (Cond.code (mc_y ci) (mc_c ci) 1 none :: mm_ws0) := by
    intro w hw
    rcases List.mem_cons.mp hw with rfl | hw
    · exact ⟨mm_ws0_in (mc_code hci), good_of_word (mm_ws0_good (mc_code hci))⟩
    · exact ⟨mm_ws0_in hw, good_of_word (mm_ws0_good hw)⟩
  refine va_callv (va_runI (own := R_law) (As := []) (rest := [.ref q]) ⟨hx, hb, hml, hown, hts⟩ (hM q H.size) ⟨callB_of 0 hts hG rfl hrc hrs (hw _ (mc_ini hci)) (hts _ hlk) ⟨(hcls ci hci).1, (hcls ci hci).2, by show (parseMethodDescriptor "()V").map _ = some 0; decide +kernel⟩ hR, rfl, hw _ (mc_inst hci)⟩ ⟨mc_blind, fun U hU hW => ⟨rfl, by rw [hU], by rw [hU]; exact hPq, va_K.moved hW.alike hK, hN.warm hW⟩⟩ rfl rfl hsz rfl (lv_room (Nat.le_of_ble_eq_true rfl)) hd3 ⟨hcells, hslots⟩) hS (fun q _ h => hF q h) hF (fun u t H1 locs ht hvm hw hB hz1 hk1 hS => ?_)
  obtain ⟨g, hg, hP1, hD1⟩ := hB
  rw [ht] at hP1
  obtain ⟨hP, hD⟩ := mc_join hP hD hk1 hF hP1 hD1
  rw [← hg]
  exact kk g H1 locs hP hD hS
end MLN
def ml_ad (g adK : Nat → Nat) (k : Nat) : Nat := if k < 1000 then g k else adK (k - 1000)
theorem ml_ad1 {g adK : Nat → Nat} {k : Nat} (h : k < 1000) : g k = ml_ad g adK k := by unfold ml_ad; rw [if_pos h]
theorem ml_ad2 {g adK : Nat → Nat} (i : Nat) : ml_ad g adK (1000 + i) = adK i := by unfold ml_ad; rw [if_neg (by omega), Nat.add_sub_cancel_left]
set_option maxHeartbeats 4000000 in
set_option maxRecDepth 100000 in
/-- from the entry, for every script of at most 2048 ints, the law comes to its end with true -/
theorem whole_start {p : Program} {e : Env} {s : State} {m : MethodId} {below : List Frame} {meth : Method} {c : Code} (l : Launch) (hflags : l.flags = flags0) {b L : Nat} {xs : Nat → Int32} (hL : L ≤ 2048) (C0 : lw_At p s m meth c b L xs) : W p l e room_1 s m #[Value.ref b] below meth c s.heap [] 0 0 (lw_Z below #[Value.ref b] s) (entryFrame m ([Value.ref b] : List Value).toArray 4) := by
  have C1 := C0
  obtain ⟨hx, hb, hr, hml, hown, hts, hX, hbl, hlocks, hgv⟩ := C0
  obtain ⟨D, cA, hK⟩ := ml_known hts
  obtain ⟨adK, adV, hT⟩ := ml_texts hts hgv
  have hN : mm_N s := fun q hq => va_Nw.of rfl (hts _ (mm_n_link _ (List.mem_map.mpr ⟨q, hq, rfl⟩)))
  have hNc : mc_N s := fun q hq => va_Nw.of rfl (hts _ (mc_n_link _ (List.mem_map.mpr ⟨q, hq, rfl⟩)))
  have hS : va_S (ml_A s) s.heap s.heap [] := va_S.rf
  have hP : va_P D vwCl [] s.heap := fun k q h => by simp at h
  have hD : va_D (ml_A s) [] := ⟨fun i j p q h => by simp at h, fun k q h => by simp at h⟩
  have hl := lv_entry ([.ref b]) (n := 4) (Nat.le_of_ble_eq_true rfl)
  rw [lg_entry_eq]
  generalize (lg_sl ([.ref b]) ++ List.replicate (4 - (lg_sl ([.ref b])).length) Slot.unset).toArray = ls at hl ⊢
  have hl : lv_has ls 4 [(0, .ref b)] := hl
  refine ml_new (ci := 6) (idxn := 7) (idxc := 9) C1 hK hNc (mc_X6 l D cA) (by decide) (by decide +kernel) (List.mem_of_getElem? (i := 69) (by decide +kernel)) (List.mem_of_getElem? (i := 71) (by decide +kernel)) rfl rfl ⟨Nat.le_of_ble_eq_true rfl, Nat.le_of_ble_eq_true rfl⟩ dL_law_0 dL_law_3 dL_law_4 hl.1 (Nat.le_of_ble_eq_true rfl) (Nat.le_of_ble_eq_true rfl) hP hD hS (fun gC H locs hP hD hS => ?_)
  refine lv_astore_n (lv' := [(1, .ref (gC 0)), (0, .ref b)]) hx hb dL_law_7 rfl hl (by decide) rfl (fun ls hl => ?_)
  refine ml_new (ci := 7) (idxn := 10) (idxc := 12) C1 hK hNc (mc_X7 l D cA) (by decide) (by decide +kernel) (List.mem_of_getElem? (i := 746) (by decide +kernel)) (List.mem_of_getElem? (i := 748) (by decide +kernel)) rfl rfl ⟨Nat.le_of_ble_eq_true rfl, Nat.le_of_ble_eq_true rfl⟩ dL_law_8 dL_law_11 dL_law_12 hl.1 (Nat.le_of_ble_eq_true rfl) (Nat.le_of_ble_eq_true rfl) hP hD hS (fun gM H locs hP hD hS => ?_)
  refine lv_astore_n (lv' := [(2, .ref (gM 0)), (1, .ref (gC 0)), (0, .ref b)]) hx hb dL_law_15 rfl hl (by decide) rfl (fun ls hl => ?_)
  refine lv_iconst (v := 0) hx hb dL_law_16 (by decide) ?_
  refine lv_istore_n (lv' := [(3, .int 0), (2, .ref (gM 0)), (1, .ref (gC 0)), (0, .ref b)]) hx hb dL_law_17 rfl hl (by decide) rfl (fun ls hl => ?_)
  rw [List.nil_append] at hP hD
  have eC : ∀ σ : mm_M, mm_ws shC gC cA σ = mm_ws shC (ml_ad gC adK) cA σ := fun σ => ml_congr (fun k hk => ml_ad1 hk) (by decide +kernel) (by decide +kernel)
  have eM : ∀ σ : mm_M, mm_ws shM gM cA σ = mm_ws shM (ml_ad gM adK) cA σ := fun σ => ml_congr (fun k hk => ml_ad1 hk) (by decide +kernel) (by decide +kernel)
  rw [eC, eM] at hP hD
  obtain ⟨dC, dM, aC, aM, ne⟩ := ml_split hD
  have hPC : va_P D vwCl (mm_ws shC (ml_ad gC adK) cA mc_s6) H := fun k q hk => hP k q (by rw [List.getElem?_append_left (List.getElem?_eq_some_iff.mp hk).1]; exact hk)
  have hPM : va_P D vwCl (mm_ws shM (ml_ad gM adK) cA mc_s7) H := fun k q hk => hP ((mm_ws shC (ml_ad gC adK) cA mc_s6).length + k) q (by rw [List.getElem?_append_right (by omega), Nat.add_sub_cancel_left]; exact hk)
  have F : ml_F D cA (ml_ad gC adK) (ml_ad gM adK) adV (ml_In (mm_ws shC (ml_ad gC adK) cA mc_s6)) (ml_In (mm_ws shM (ml_ad gM adK) cA mc_s7)) b L xs p s m meth c := ⟨C1, hL, hK, hN, hT _ (fun i _ => ml_ad2 i), hT _ (fun i _ => ml_ad2 i), mm_D_any dC, mm_D_any dM, aC, aM, ne⟩
  have hl : lv_has ls 4 (ml_lv (ml_ad gC adK) (ml_ad gM adK) b 0) := by
    unfold ml_lv
    rw [← ml_ad1 (g := gC) (adK := adK) (by decide), ← ml_ad1 (g := gM) (adK := adK) (by decide), nI_0]
    exact hl
  exact ml_loop F (Nat.le_of_ble_eq_true rfl) (Nat.le_of_ble_eq_true rfl) (L + 1) 0 mc_s6 mc_s7 H locs ls (by omega) (Nat.zero_le L) ⟨ml_inv, hPC, hPM, hS⟩ hl
