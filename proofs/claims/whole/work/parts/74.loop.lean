/-! THE LAW'S LOOP -/
theorem ml_more {L i : Nat} (hL : L ≤ 2048) (hi : i ≤ 4096) (h : ¬ nI L - 4 < nI i) : i + 4 ≤ L := by
  have e := sub_toInt (a := L) (b := 4) (by omega) (by omega)
  rw [Int32.lt_iff_toInt_lt] at h
  rw [show (4 : Int32) = nI 4 from rfl] at h
  have e2 : (nI i).toInt = (i : Int) := by
    have h3 := sub_toInt (a := i) (b := 0) (by omega) (by omega)
    rw [show nI i - nI 0 = nI i from by rw [nI_0]; exact Int32.sub_zero _] at h3
    omega
  rw [e, e2] at h
  omega
section MLL
variable {p : Program} {l : Launch} {e : Env} {s : State} {m : MethodId} {below : List Frame} {meth : Method} {c : Code} {cells slots : Nat} {D : va_G} {cA : FieldType → ClassId} {b L : Nat} {xs : Nat → Int32} {adV : Nat → Nat} {gC gM : Nat → Nat} {AC AM : Nat → Prop}
set_option maxRecDepth 100000 in
theorem ml_loop (F : ml_F D cA gC gM adV AC AM b L xs p s m meth c) (hcells : cells ≤ 600000) (hslots : slots ≤ 7302249) : ∀ (n i : Nat) (σ μ : mm_M) (H : Heap) (locs : List Loc) (ls : Array Slot), L < i + n → i ≤ L → ml_W D cA gC gM s σ μ H locs → lv_has ls 4 (ml_lv gC gM b i) → W p l e room_1 s m #[Value.ref b] below meth c H locs cells slots (lw_Z below #[Value.ref b] s) (F0 m 18 ls [])
  | 0, i, σ, μ, H, locs, ls, h1, h2, hw, hl => by omega
  | n + 1, i, σ, μ, H, locs, ls, h1, h2, hw, hl => by
    obtain ⟨hx, hb, hr, hml, hown, hts, hX, hbl, hlocks, hgv⟩ := F.1
    have hL := F.2.1
    have hbA : ¬ ml_A s b := Nat.not_le.mpr hbl
    refine lv_iload_n hx hb dL_law_18 rfl (lv_at hl 0 rfl) ?_
    refine lv_aload_n hx hb dL_law_19 rfl (lv_at hl 3 rfl) ?_
    refine va_slen hx hb hX hbl hbA hw.2.2.2 dL_law_20 ?_
    refine lv_iconst (v := 4) hx hb dL_law_21 (by decide) ?_
    refine lv_isub hx hb dL_law_22 ?_
    refine lv_icmp_gt (tgt := 843) hx hb dL_law_23 (by decide) (fun _ => ?_) (fun q => ?_)
    · refine W.widen (k := 600000) (n := 7302249) hcells hslots ?_
      refine va_forget (fun q hq => hw.2.2.2.2.2 q hq) ?_
      refine lv_iconst (v := 1) hx hb dL_law_843 (by decide) ?_
      exact lw_ret hx hb hr hlocks dL_law_844
    · have hi : i + 4 ≤ L := ml_more hL (by omega) q
      refine lv_aload_n hx hb dL_law_26 rfl (lv_at hl 3 rfl) ?_
      refine lv_iload_n hx hb dL_law_27 rfl (lv_at hl 0 rfl) ?_
      refine va_sld hx hb hX hbl hbA hw.2.2.2 (vp_in_nI (by omega) (by omega)) dL_law_28 ?_
      refine lv_bipush (v := 31) hx hb dL_law_29 (by decide) ?_
      refine lv_iand hx hb dL_law_31 ?_
      refine ml_switch F hl hi hw hcells hslots _ (fun σ' μ' H1 locs1 hw1 => ?_)
      refine lv_iinc (v := nI (i + 4)) (lv' := ml_lv gC gM b (i + 4)) hx hb dL_law_837 hl (k := 0) rfl (by rw [show Int32.ofInt 4 = nI 4 from rfl, nI_add]) (by decide) rfl (fun ls hl => ?_)
      refine lv_goto (tgt := 18) hx hb dL_law_840 (by decide) ?_
      exact ml_loop F hcells hslots n (i + 4) σ' μ' H1 locs1 ls (by omega) hi hw1 hl
end MLL
