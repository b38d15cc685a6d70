/-! CALLS: answer -/
def cmG (xs ys : Nat → Int32) (g : Nat → Nat) (law : Int32) (w : Nat → Int32) (n : Nat) (s : Nat → Int32) (l : Nat) : Int32 :=
  wlkF xs ys g (ordF (fun i => w i + s i) n law) (rkF (ordF (fun i => w i + s i) n law) n l + 1)
abbrev cmC (σ : mm_M) (n : Nat) : (Nat → Int32) → Nat → Int32 := cmG (σ.1 12) (σ.1 13) (glF (σ.1 14)) (σ.1 11 10) (σ.1 15) n
abbrev cmM (μ : mm_M) (n : Nat) : (Nat → Int32) → Nat → Int32 := cmG (μ.1 1) (μ.1 2) (glF (μ.1 3)) (μ.1 0 10) (μ.1 4) n
theorem comeF_cm (σ : mm_M) (S n l : Nat) : comeF σ S n l = cmC σ n (σ.1 S) l := rfl
theorem comeM_cm (μ : mm_M) (n l : Nat) : comeM μ n l = cmM μ n (μ.1 7) l := rfl
def hdG (cm : (Nat → Int32) → Nat → Int32) (due worth : Nat → Int32) (c : Int32) (s : Nat → Int32) (l v : Nat) : Int32 := (if cm (upd s l (nI v)) l ≤ due l then worth l else 0) - c * nI v
def bzF (h : Nat → Int32) : Nat → Nat × Int32
  | 0 => (0, -1000000000)
  | v + 1 => if (bzF h v).2 < h v then (v, h v) else bzF h v
def asG (cm : (Nat → Int32) → Nat → Int32) (due worth : Nat → Int32) (c : Int32) (s : Nat → Int32) (l : Nat) : Nat := (bzF (hdG cm due worth c s l) 10).1
theorem bzF_lt (h : Nat → Int32) : ∀ v, (bzF h (v + 1)).1 ≤ v
  | 0 => by unfold bzF; split <;> exact Nat.le_refl _
  | v + 1 => by
    have := bzF_lt h v
    rw [bzF]
    split
    · exact Nat.le_refl _
    · omega
theorem asG_le {cm : (Nat → Int32) → Nat → Int32} {due worth : Nat → Int32} {c : Int32} {s : Nat → Int32} {l : Nat} : asG cm due worth c s l ≤ 9 := bzF_lt _ 9
theorem bzF_congr {h h' : Nat → Int32} : ∀ v, (∀ i, i < v → h i = h' i) → bzF h v = bzF h' v
  | 0, _ => rfl
  | v + 1, e => by unfold bzF; rw [bzF_congr v (fun i hi => e i (by omega)), e v (by omega)]
theorem sub_toInt {a b : Nat} (ha : a < 2 ^ 30) (hb : b < 2 ^ 30) : (nI a - nI b).toInt = (a : Int) - b := by
  rw [Int32.toInt_sub, nI_toInt (by omega), nI_toInt (by omega)]
  exact Int.bmod_eq_of_le (by omega) (by omega)
theorem hq_toInt {a c v : Nat} (ha : a ≤ 99) (hc : c ≤ 99) (hv : v ≤ 10) : (nI a - nI c * nI v).toInt = (a : Int) - (c * v : Nat) := by
  have h : c * v ≤ 99 * 10 := Nat.mul_le_mul hc hv
  rw [show nI c * nI v = nI (c * v) from (Int32.ofNat_mul c v).symm, sub_toInt (by omega) (by omega)]
section HD
variable {cm : (Nat → Int32) → Nat → Int32} {due worth : Nat → Int32} {s : Nat → Int32} {l c w : Nat}
theorem hd_toInt (hw : worth l = nI w) (hw2 : w ≤ 99) (hc : c ≤ 99) {v : Nat} (hv : v ≤ 10) : ∃ a, a ≤ w ∧ (hdG cm due worth (nI c) s l v).toInt = (a : Int) - (c * v : Nat) := by
  unfold hdG
  rw [hw]
  by_cases h : cm (upd s l (nI v)) l ≤ due l
  · exact ⟨w, Nat.le_refl _, by rw [if_pos h]; exact hq_toInt hw2 hc hv⟩
  · exact ⟨0, Nat.zero_le _, by rw [if_neg h]; exact hq_toInt (a := 0) (by omega) hc hv⟩
theorem hd_low (hw : worth l = nI w) (hw2 : w ≤ 99) (hc : c ≤ 99) : -1000000000 < hdG cm due worth (nI c) s l 0 := by
  obtain ⟨a, ha, e⟩ := hd_toInt (cm := cm) (due := due) (s := s) hw hw2 hc (show 0 ≤ 10 by decide)
  rw [Int32.lt_iff_toInt_lt, e, show (-1000000000 : Int32).toInt = -1000000000 from rfl]
  omega
/-- dearer stones can no longer gain -/
theorem hd_cut (hw : worth l = nI w) (hw2 : w ≤ 99) (hc : c ≤ 99) {v : Nat} (hb : nI w - nI c * nI v ≤ (bzF (hdG cm due worth (nI c) s l) v).2) : ∀ m, v + m ≤ 10 → bzF (hdG cm due worth (nI c) s l) (v + m) = bzF (hdG cm due worth (nI c) s l) v
  | 0, _ => rfl
  | m + 1, hm => by
    have ih := hd_cut hw hw2 hc hb m (by omega)
    rw [show v + (m + 1) = v + m + 1 by omega, bzF, ih, if_neg]
    intro q
    rw [Int32.lt_iff_toInt_lt] at q
    rw [Int32.le_iff_toInt_le, hq_toInt hw2 hc (by omega)] at hb
    obtain ⟨a, ha, e⟩ := hd_toInt (cm := cm) (due := due) (s := s) hw hw2 hc (show v + m ≤ 10 by omega)
    rw [e] at q
    have : c * v ≤ c * (v + m) := Nat.mul_le_mul_left c (by omega)
    omega
end HD
theorem upd_upd (f : Nat → Int32) (k : Nat) (x y : Int32) : upd (upd f k x) k y = upd f k y := by
  funext i
  rw [upd_1, upd_1, upd_1]
  split <;> rfl
theorem upd_self (f : Nat → Int32) (k : Nat) : upd f k (f k) = f := by
  funext i
  rw [upd_1]
  split
  · next h => rw [h]
  · rfl
def abC (c : Int32) (σ : mm_M) (n : Nat) (s : Nat → Int32) (l : Nat) : Nat := asG (cmC σ n) (σ.1 16) (σ.1 17) c s l
def bh0 (h : Nat → Int32) (v : Nat) : Int32 := if v = 0 then 0 else (bzF h v).2
theorem best_loop {σ : mm_M} {n l c w : Nat} (hT : okT σ n) (hl : l < n) (hw : σ.1 17 l = nI w) (hw2 : w ≤ 99) (hc : c ≤ 99) : ∀ (j v : Nat) (τ : mm_M) (a9 : Value), j + v = 10 → (∀ k, k < 27 ∨ 31 < k → τ.1 k = σ.1 k) → (∃ x, τ.1 27 = upd (σ.1 27) l x) → ∃ τ' : mm_M, (∀ k, k < 28 ∨ 31 < k → τ'.1 k = σ.1 k) ∧ ∀ (d : Nat) (P : mm_O), mm_at shC (d + 5) 34 [] P 29 [.ref 26, .ref 11, .int (nI l), .int (nI c), .int (σ.1 27 l), .int (nI w), .int (nI (bzF (hdG (cmC σ n) (σ.1 16) (σ.1 17) (nI c) (σ.1 27) l) v).1), .int (bh0 (hdG (cmC σ n) (σ.1 16) (σ.1 17) (nI c) (σ.1 27) l) v), .int (nI v), a9] [] τ = P (some (.int (nI (abC (nI c) σ n (σ.1 27) l)))) τ' := by
  have hn := hT.2.1
  generalize hh : hdG (cmC σ n) (σ.1 16) (σ.1 17) (nI c) (σ.1 27) l = h
  have fin : ∀ (v : Nat) (τ : mm_M) (a5 a7 a8 a9 : Value), (∀ k, k < 27 ∨ 31 < k → τ.1 k = σ.1 k) → (∃ x, τ.1 27 = upd (σ.1 27) l x) → bzF h 10 = bzF h v → ∃ τ' : mm_M, (∀ k, k < 28 ∨ 31 < k → τ'.1 k = σ.1 k) ∧ ∀ (d : Nat) (P : mm_O), mm_at shC (d + 5) 34 [] P 118 [.ref 26, .ref 11, .int (nI l), .int (nI c), .int (σ.1 27 l), a5, .int (nI (bzF h v).1), a7, a8, a9] [] τ = P (some (.int (nI (abC (nI c) σ n (σ.1 27) l)))) τ' := by
    intro v τ a5 a7 a8 a9 k1 ⟨x, k2⟩ e
    refine ⟨mm_set τ 27 (upd (τ.1 27) l (σ.1 27 l)), fun k hk => ?_, fun d P => ?_⟩
    · rw [mm_set_1]
      by_cases h27 : k = 27
      · subst h27
        rw [if_pos rfl, k2, upd_upd, upd_self]
      · rw [if_neg h27]; exact k1 k (by omega)
    · have hput : putF (τ.1 27) 7 (nI l) (σ.1 27 l) = upd (τ.1 27) l (σ.1 27 l) := putF_in _ _ (by omega) (by decide)
      rw [show abC (nI c) σ n (σ.1 27) l = (bzF h v).1 by unfold abC asG; rw [hh, e]]
      simp only [qX4_bestStones_0, qX4_bestStones_1, qX4_bestStones_4, qX4_bestStones_5, qX4_bestStones_8, qX4_bestStones_10, qX4_bestStones_11a, qX4_bestStones_11b, qX4_bestStones_14, qX4_bestStones_15, qX4_bestStones_18, qX4_bestStones_20, qX4_bestStones_21, qX4_bestStones_23, qX4_bestStones_24, qX4_bestStones_26, qX4_bestStones_27, qX4_bestStones_31, qX4_bestStones_33, qX4_bestStones_36, qX4_bestStones_38, qX4_bestStones_41, qX4_bestStones_43, qX4_bestStones_44, qX4_bestStones_46, qX4_bestStones_47, qX4_bestStones_48, qX4_bestStones_50, qX4_bestStones_53, qX4_bestStones_56, qX4_bestStones_57, qX4_bestStones_60, qX4_bestStones_61, qX4_bestStones_63, qX4_bestStones_66, qX4_bestStones_67, qX4_bestStones_70, qX4_bestStones_71, qX4_bestStones_72, qX4_bestStones_75, qX4_bestStones_78, qX4_bestStones_79, qX4_bestStones_82, qX4_bestStones_83, qX4_bestStones_84, qX4_bestStones_86, qX4_bestStones_87, qX4_bestStones_90, qX4_bestStones_92, qX4_bestStones_94, qX4_bestStones_97, qX4_bestStones_99, qX4_bestStones_101, qX4_bestStones_104, qX4_bestStones_106, qX4_bestStones_108, qX4_bestStones_110, qX4_bestStones_112, qX4_bestStones_115, qX4_bestStones_118, qX4_bestStones_119, qX4_bestStones_122, qX4_bestStones_123, qX4_bestStones_125, qX4_bestStones_128, qX4_bestStones_130, s_put (show shC[27]? = some (.inl (.int, 7)) from rfl) (show 7 < 2 ^ 31 by decide), hput, Option.toList, List.cons_append, List.nil_append]
  intro j
  induction j with
  | zero =>
    intro v τ a9 hv k1 k2
    have hv : v = 10 := by omega
    subst hv
    obtain ⟨τ', i1, i2⟩ := fin 10 τ (.int (nI w)) (.int (bh0 h 10)) (.int (nI 10)) a9 k1 k2 rfl
    refine ⟨τ', i1, fun d P => ?_⟩
    rw [qX4_bestStones_29]
    simp only [qX4_bestStones_0, qX4_bestStones_1, qX4_bestStones_4, qX4_bestStones_5, qX4_bestStones_8, qX4_bestStones_10, qX4_bestStones_11a, qX4_bestStones_11b, qX4_bestStones_14, qX4_bestStones_15, qX4_bestStones_18, qX4_bestStones_20, qX4_bestStones_21, qX4_bestStones_23, qX4_bestStones_24, qX4_bestStones_26, qX4_bestStones_27, qX4_bestStones_31, qX4_bestStones_33, qX4_bestStones_36, qX4_bestStones_38, qX4_bestStones_41, qX4_bestStones_43, qX4_bestStones_44, qX4_bestStones_46, qX4_bestStones_47, qX4_bestStones_48, qX4_bestStones_50, qX4_bestStones_53, qX4_bestStones_56, qX4_bestStones_57, qX4_bestStones_60, qX4_bestStones_61, qX4_bestStones_63, qX4_bestStones_66, qX4_bestStones_67, qX4_bestStones_70, qX4_bestStones_71, qX4_bestStones_72, qX4_bestStones_75, qX4_bestStones_78, qX4_bestStones_79, qX4_bestStones_82, qX4_bestStones_83, qX4_bestStones_84, qX4_bestStones_86, qX4_bestStones_87, qX4_bestStones_90, qX4_bestStones_92, qX4_bestStones_94, qX4_bestStones_97, qX4_bestStones_99, qX4_bestStones_101, qX4_bestStones_104, qX4_bestStones_106, qX4_bestStones_108, qX4_bestStones_110, qX4_bestStones_112, qX4_bestStones_115, qX4_bestStones_119, qX4_bestStones_122, qX4_bestStones_123, qX4_bestStones_125, qX4_bestStones_128, qX4_bestStones_130, show (9 : Int32) < nI 10 by decide, if_true]
    exact i2 d P
  | succ j ih =>
    intro v τ a9 hv k1 k2
    have h1 : ¬ (9 : Int32) < nI v := show ¬ nI 9 < nI v from nI_nlt (by omega) (by decide)
    -- one try
    have try_ : ∃ τ' : mm_M, (∀ k, k < 28 ∨ 31 < k → τ'.1 k = σ.1 k) ∧ ∀ (d : Nat) (P : mm_O), mm_at shC (d + 5) 34 [] P 56 [.ref 26, .ref 11, .int (nI l), .int (nI c), .int (σ.1 27 l), .int (nI w), .int (nI (bzF h v).1), .int (bh0 h v), .int (nI v), a9] [] τ = P (some (.int (nI (abC (nI c) σ n (σ.1 27) l)))) τ' := by
      obtain ⟨x, k2⟩ := k2
      have hput : putF (τ.1 27) 7 (nI l) (nI v) = upd (τ.1 27) l (nI v) := putF_in _ _ (by omega) (by decide)
      generalize hτ1 : mm_set τ 27 (upd (τ.1 27) l (nI v)) = τ1
      have e1 : ∀ k, k < 27 ∨ 31 < k → τ1.1 k = σ.1 k := fun k hk => by rw [← hτ1, mm_set_ne _ _ (by omega)]; exact k1 k hk
      have e2 : τ1.1 27 = upd (σ.1 27) l (nI v) := by rw [← hτ1, mm_set_same, k2, upd_upd]
      have hT1 : okT τ1 n := by
        unfold okT
        rw [e1 11 (by omega), e1 14 (by omega)]
        exact hT
      have f1 := fun (d : Nat) (P : mm_O) => s_lay_28 (d := d) (P := P) (σ := τ1) (n := n) (S := 27) rfl hT1 (by decide)
      generalize hτ2 : layF τ1 28 29 30 31 27 n = τ2 at f1
      have e3 : ∀ k, k < 28 ∨ 31 < k → τ2.1 k = τ1.1 k := fun k hk => by rw [← hτ2]; exact layF_o (by omega) (by omega) (by omega) (by omega)
      have e4 : τ2.1 31 l = cmC σ n (upd (σ.1 27) l (nI v)) l := by
        rw [← hτ2, lay_c_28 hl, comeF_cm]
        unfold cmC
        rw [e1 12 (by omega), e1 13 (by omega), e1 14 (by omega), e1 11 (by omega), e1 15 (by omega), e2]
      have f2 := fun (d : Nat) (P : mm_O) => s_had_28 (d := d) (P := P) (σ := τ2) (sc := nI v) (co := nI c) (show l < 7 by omega)
      rw [e4, e3 16 (by omega), e3 17 (by omega), e1 16 (by omega), e1 17 (by omega)] at f2
      have e5 : (if cmC σ n (upd (σ.1 27) l (nI v)) l ≤ σ.1 16 l then σ.1 17 l else 0) - nI c * nI v = h v := by rw [← hh]; rfl
      rw [e5] at f2
      obtain ⟨τ', i1, i2⟩ := ih (v + 1) τ2 (.int (h v)) (by omega) (fun k hk => by rw [e3 k (by omega)]; exact e1 k hk) ⟨nI v, by rw [e3 27 (by omega), e2]⟩
      refine ⟨τ', i1, fun d P => ?_⟩
      rw [← i2 d P]
      simp only [qX4_bestStones_0, qX4_bestStones_1, qX4_bestStones_4, qX4_bestStones_5, qX4_bestStones_8, qX4_bestStones_10, qX4_bestStones_11a, qX4_bestStones_11b, qX4_bestStones_14, qX4_bestStones_15, qX4_bestStones_18, qX4_bestStones_20, qX4_bestStones_21, qX4_bestStones_23, qX4_bestStones_24, qX4_bestStones_26, qX4_bestStones_27, qX4_bestStones_31, qX4_bestStones_33, qX4_bestStones_36, qX4_bestStones_38, qX4_bestStones_41, qX4_bestStones_43, qX4_bestStones_44, qX4_bestStones_46, qX4_bestStones_47, qX4_bestStones_48, qX4_bestStones_50, qX4_bestStones_53, qX4_bestStones_56, qX4_bestStones_57, qX4_bestStones_60, qX4_bestStones_61, qX4_bestStones_63, qX4_bestStones_66, qX4_bestStones_67, qX4_bestStones_70, qX4_bestStones_71, qX4_bestStones_72, qX4_bestStones_75, qX4_bestStones_78, qX4_bestStones_79, qX4_bestStones_82, qX4_bestStones_83, qX4_bestStones_84, qX4_bestStones_86, qX4_bestStones_87, qX4_bestStones_90, qX4_bestStones_92, qX4_bestStones_94, qX4_bestStones_97, qX4_bestStones_99, qX4_bestStones_101, qX4_bestStones_104, qX4_bestStones_106, qX4_bestStones_108, qX4_bestStones_110, qX4_bestStones_112, qX4_bestStones_115, qX4_bestStones_119, qX4_bestStones_122, qX4_bestStones_123, qX4_bestStones_125, qX4_bestStones_128, qX4_bestStones_130, s_put (show shC[27]? = some (.inl (.int, 7)) from rfl) (show 7 < 2 ^ 31 by decide), hput, hτ1, f1, f2, Option.toList, List.cons_append, List.nil_append]
      by_cases hv0 : v = 0
      · subst hv0
        have low : (bzF h 0).2 < h 0 := by rw [← hh]; exact hd_low hw hw2 hc
        simp only [show nI 0 = 0 from rfl, if_true, bh0, bzF, show ((0 : Nat) + 1 = 0) = False by simp]
        have low2 : (-1000000000 : Int32) < h 0 := low
        simp only [qX4_bestStones_0, qX4_bestStones_1, qX4_bestStones_4, qX4_bestStones_5, qX4_bestStones_8, qX4_bestStones_10, qX4_bestStones_11a, qX4_bestStones_11b, qX4_bestStones_14, qX4_bestStones_15, qX4_bestStones_18, qX4_bestStones_20, qX4_bestStones_21, qX4_bestStones_23, qX4_bestStones_24, qX4_bestStones_26, qX4_bestStones_27, qX4_bestStones_31, qX4_bestStones_33, qX4_bestStones_36, qX4_bestStones_38, qX4_bestStones_41, qX4_bestStones_43, qX4_bestStones_44, qX4_bestStones_46, qX4_bestStones_47, qX4_bestStones_48, qX4_bestStones_50, qX4_bestStones_53, qX4_bestStones_56, qX4_bestStones_57, qX4_bestStones_60, qX4_bestStones_61, qX4_bestStones_63, qX4_bestStones_66, qX4_bestStones_67, qX4_bestStones_70, qX4_bestStones_71, qX4_bestStones_72, qX4_bestStones_75, qX4_bestStones_78, qX4_bestStones_79, qX4_bestStones_82, qX4_bestStones_83, qX4_bestStones_84, qX4_bestStones_86, qX4_bestStones_87, qX4_bestStones_90, qX4_bestStones_92, qX4_bestStones_94, qX4_bestStones_97, qX4_bestStones_99, qX4_bestStones_101, qX4_bestStones_104, qX4_bestStones_106, qX4_bestStones_108, qX4_bestStones_110, qX4_bestStones_112, qX4_bestStones_115, qX4_bestStones_119, qX4_bestStones_122, qX4_bestStones_123, qX4_bestStones_125, qX4_bestStones_128, qX4_bestStones_130, low2, if_true, show ¬ (0 + 1 = 0) by decide, if_false]
        rfl
      · simp only [nI_ne0 (show 0 < v by omega) (show v < 2 ^ 31 by omega), if_false]
        have hb : bh0 h v = (bzF h v).2 := if_neg hv0
        have hb2 : bh0 h (v + 1) = (bzF h (v + 1)).2 := if_neg (by omega)
        rw [hb, hb2]
        by_cases hlt : (bzF h v).2 < h v
        · have hle : ¬ h v ≤ (bzF h v).2 := Int32.not_le.mpr hlt
          simp only [bzF, hlt, hle, if_true, if_false, nI_1]
        · have hle : h v ≤ (bzF h v).2 := Int32.not_lt.mp hlt
          simp only [bzF, hlt, hle, if_true, if_false, nI_1]
    obtain ⟨τ', i1, i2⟩ := try_
    by_cases hcut : v ≠ 0 ∧ nI w - nI c * nI v ≤ (bzF h v).2
    · obtain ⟨hv0, hcut⟩ := hcut
      have hb : bh0 h v = (bzF h v).2 := if_neg hv0
      have e10 : bzF h 10 = bzF h v := by
        have := hd_cut (cm := cmC σ n) (due := σ.1 16) (s := σ.1 27) hw hw2 hc (v := v) (by rw [hh]; exact hcut) (10 - v) (by omega)
        rw [hh, show v + (10 - v) = 10 by omega] at this
        exact this
      obtain ⟨τ', i1, i2⟩ := fin v τ (.int (nI w)) (.int (bh0 h v)) (.int (nI v)) a9 k1 k2 e10
      refine ⟨τ', i1, fun d P => ?_⟩
      rw [← i2 d P, qX4_bestStones_29]
      simp only [qX4_bestStones_0, qX4_bestStones_1, qX4_bestStones_4, qX4_bestStones_5, qX4_bestStones_8, qX4_bestStones_10, qX4_bestStones_11a, qX4_bestStones_11b, qX4_bestStones_14, qX4_bestStones_15, qX4_bestStones_18, qX4_bestStones_20, qX4_bestStones_21, qX4_bestStones_23, qX4_bestStones_24, qX4_bestStones_26, qX4_bestStones_27, qX4_bestStones_31, qX4_bestStones_33, qX4_bestStones_36, qX4_bestStones_38, qX4_bestStones_41, qX4_bestStones_43, qX4_bestStones_44, qX4_bestStones_46, qX4_bestStones_47, qX4_bestStones_48, qX4_bestStones_50, qX4_bestStones_53, qX4_bestStones_56, qX4_bestStones_57, qX4_bestStones_60, qX4_bestStones_61, qX4_bestStones_63, qX4_bestStones_66, qX4_bestStones_67, qX4_bestStones_70, qX4_bestStones_71, qX4_bestStones_72, qX4_bestStones_75, qX4_bestStones_78, qX4_bestStones_79, qX4_bestStones_82, qX4_bestStones_83, qX4_bestStones_84, qX4_bestStones_86, qX4_bestStones_87, qX4_bestStones_90, qX4_bestStones_92, qX4_bestStones_94, qX4_bestStones_97, qX4_bestStones_99, qX4_bestStones_101, qX4_bestStones_104, qX4_bestStones_106, qX4_bestStones_108, qX4_bestStones_110, qX4_bestStones_112, qX4_bestStones_115, qX4_bestStones_119, qX4_bestStones_122, qX4_bestStones_123, qX4_bestStones_125, qX4_bestStones_128, qX4_bestStones_130, h1, if_false, nI_nle (show 0 < v by omega) (show v < 2 ^ 31 by omega)]
      rw [if_neg (by rw [hb]; exact Int32.not_lt.mpr hcut)]
    · refine ⟨τ', i1, fun d P => ?_⟩
      rw [← i2 d P, qX4_bestStones_29]
      by_cases hv0 : v = 0
      · subst hv0
        simp only [qX4_bestStones_0, qX4_bestStones_1, qX4_bestStones_4, qX4_bestStones_5, qX4_bestStones_8, qX4_bestStones_10, qX4_bestStones_11a, qX4_bestStones_11b, qX4_bestStones_14, qX4_bestStones_15, qX4_bestStones_18, qX4_bestStones_20, qX4_bestStones_21, qX4_bestStones_23, qX4_bestStones_24, qX4_bestStones_26, qX4_bestStones_27, qX4_bestStones_31, qX4_bestStones_33, qX4_bestStones_36, qX4_bestStones_38, qX4_bestStones_41, qX4_bestStones_43, qX4_bestStones_44, qX4_bestStones_46, qX4_bestStones_47, qX4_bestStones_48, qX4_bestStones_50, qX4_bestStones_53, qX4_bestStones_57, qX4_bestStones_60, qX4_bestStones_61, qX4_bestStones_63, qX4_bestStones_66, qX4_bestStones_67, qX4_bestStones_70, qX4_bestStones_71, qX4_bestStones_72, qX4_bestStones_75, qX4_bestStones_78, qX4_bestStones_79, qX4_bestStones_82, qX4_bestStones_83, qX4_bestStones_84, qX4_bestStones_86, qX4_bestStones_87, qX4_bestStones_90, qX4_bestStones_92, qX4_bestStones_94, qX4_bestStones_97, qX4_bestStones_99, qX4_bestStones_101, qX4_bestStones_104, qX4_bestStones_106, qX4_bestStones_108, qX4_bestStones_110, qX4_bestStones_112, qX4_bestStones_115, qX4_bestStones_119, qX4_bestStones_122, qX4_bestStones_123, qX4_bestStones_125, qX4_bestStones_128, qX4_bestStones_130, h1, if_false, show nI 0 ≤ 0 by decide, if_true]
      · have hcut : ¬ nI w - nI c * nI v ≤ (bzF h v).2 := fun q => hcut ⟨hv0, q⟩
        have hb : bh0 h v = (bzF h v).2 := if_neg hv0
        simp only [qX4_bestStones_0, qX4_bestStones_1, qX4_bestStones_4, qX4_bestStones_5, qX4_bestStones_8, qX4_bestStones_10, qX4_bestStones_11a, qX4_bestStones_11b, qX4_bestStones_14, qX4_bestStones_15, qX4_bestStones_18, qX4_bestStones_20, qX4_bestStones_21, qX4_bestStones_23, qX4_bestStones_24, qX4_bestStones_26, qX4_bestStones_27, qX4_bestStones_31, qX4_bestStones_33, qX4_bestStones_36, qX4_bestStones_38, qX4_bestStones_41, qX4_bestStones_43, qX4_bestStones_44, qX4_bestStones_46, qX4_bestStones_47, qX4_bestStones_48, qX4_bestStones_50, qX4_bestStones_53, qX4_bestStones_57, qX4_bestStones_60, qX4_bestStones_61, qX4_bestStones_63, qX4_bestStones_66, qX4_bestStones_67, qX4_bestStones_70, qX4_bestStones_71, qX4_bestStones_72, qX4_bestStones_75, qX4_bestStones_78, qX4_bestStones_79, qX4_bestStones_82, qX4_bestStones_83, qX4_bestStones_84, qX4_bestStones_86, qX4_bestStones_87, qX4_bestStones_90, qX4_bestStones_92, qX4_bestStones_94, qX4_bestStones_97, qX4_bestStones_99, qX4_bestStones_101, qX4_bestStones_104, qX4_bestStones_106, qX4_bestStones_108, qX4_bestStones_110, qX4_bestStones_112, qX4_bestStones_115, qX4_bestStones_119, qX4_bestStones_122, qX4_bestStones_123, qX4_bestStones_125, qX4_bestStones_128, qX4_bestStones_130, h1, if_false, nI_nle (show 0 < v by omega) (show v < 2 ^ 31 by omega)]
        rw [if_pos (by rw [hb]; exact Int32.not_le.mp hcut)]
theorem s_bestStones {σ : mm_M} {n l c w : Nat} (hT : okT σ n) (hl : l < n) (hw : σ.1 17 l = nI w) (hw2 : w ≤ 99) (hc : c ≤ 99) : ∃ τ' : mm_M, (∀ k, k < 28 ∨ 31 < k → τ'.1 k = σ.1 k) ∧ ∀ (d : Nat) (P : mm_O), mm_run shC (d + 6) 34 [.ref 26, .ref 11, .int (nI l), .int (nI c)] σ P = P (some (.int (nI (abC (nI c) σ n (σ.1 27) l)))) τ' := by
  obtain ⟨τ', i1, i2⟩ := best_loop hT hl hw hw2 hc 10 0 σ .null (by omega) (fun _ _ => rfl) ⟨σ.1 27 l, (upd_self _ _).symm⟩
  refine ⟨τ', i1, fun d P => ?_⟩
  rw [← i2 d P, in_X4_bestStones]
  have hn := hT.2.1
  simp only [qX4_bestStones_0, qX4_bestStones_1, qX4_bestStones_4, qX4_bestStones_5, qX4_bestStones_8, qX4_bestStones_10, qX4_bestStones_11a, qX4_bestStones_11b, qX4_bestStones_14, qX4_bestStones_15, qX4_bestStones_18, qX4_bestStones_20, qX4_bestStones_21, qX4_bestStones_23, qX4_bestStones_24, qX4_bestStones_26, qX4_bestStones_27, qX4_bestStones_31, qX4_bestStones_33, qX4_bestStones_36, qX4_bestStones_38, qX4_bestStones_41, qX4_bestStones_43, qX4_bestStones_44, qX4_bestStones_46, qX4_bestStones_47, qX4_bestStones_48, qX4_bestStones_50, qX4_bestStones_53, qX4_bestStones_56, qX4_bestStones_57, qX4_bestStones_60, qX4_bestStones_61, qX4_bestStones_63, qX4_bestStones_66, qX4_bestStones_67, qX4_bestStones_70, qX4_bestStones_71, qX4_bestStones_72, qX4_bestStones_75, qX4_bestStones_78, qX4_bestStones_79, qX4_bestStones_82, qX4_bestStones_83, qX4_bestStones_84, qX4_bestStones_86, qX4_bestStones_87, qX4_bestStones_90, qX4_bestStones_92, qX4_bestStones_94, qX4_bestStones_97, qX4_bestStones_99, qX4_bestStones_101, qX4_bestStones_104, qX4_bestStones_106, qX4_bestStones_108, qX4_bestStones_110, qX4_bestStones_112, qX4_bestStones_115, qX4_bestStones_119, qX4_bestStones_122, qX4_bestStones_123, qX4_bestStones_125, qX4_bestStones_128, qX4_bestStones_130, s_at (show shC[27]? = some (.inl (.int, 7)) from rfl) (show 7 < 2 ^ 31 by decide), s_at_17, atF_in _ (show l < 7 by omega) (show 7 < 2 ^ 31 by decide), hw, Option.toList, List.cons_append, List.nil_append]
  rfl
