/-! CALLS: town -/
theorem TxR.bytes {σ μ : mm_M} (h : TxR σ μ) : ∃ (B : Nat → Nat) (T : Nat), TXC σ B T ∧ TXM μ B T := by
  obtain ⟨T, hT, h1, h2, h3⟩ := h
  refine ⟨fun k => (μ.1 8 k).toNatClampNeg, T, ⟨hT, h1, fun k hk => ?_⟩, ⟨hT, h2, fun k hk => ?_⟩⟩
  · obtain ⟨b, hb, e1, e2⟩ := h3 k hk
    have e : (μ.1 8 k).toNatClampNeg = b := by rw [e1]; exact nI_clamp (by omega)
    exact ⟨by show (μ.1 8 k).toNatClampNeg < 256; rw [e]; exact hb, by show σ.1 2 k = sbI (μ.1 8 k).toNatClampNeg; rw [e]; exact e2⟩
  · obtain ⟨b, hb, e1, e2⟩ := h3 k hk
    have e : (μ.1 8 k).toNatClampNeg = b := by rw [e1]; exact nI_clamp (by omega)
    exact ⟨by show (μ.1 8 k).toNatClampNeg < 256; rw [e]; exact hb, by show μ.1 8 k = nI (μ.1 8 k).toNatClampNeg; rw [e]; exact e1⟩
theorem town_copy {μ : mm_M} {a1 : Value} : ∀ (j k : Nat) (ν : mm_M), j + k = 7 → (∀ c, c = 0 ∨ 7 < c → ν.1 c = μ.1 c) → (∀ i, i < k → ν.1 1 i = μ.1 9 i ∧ ν.1 2 i = μ.1 10 i ∧ ν.1 3 i = μ.1 11 i ∧ ν.1 4 i = μ.1 12 i ∧ ν.1 5 i = μ.1 13 i ∧ ν.1 6 i = μ.1 14 i ∧ ν.1 7 i = 0) → ∃ ν' : mm_M, (∀ c, c = 0 ∨ 7 < c → ν'.1 c = μ.1 c) ∧ (∀ i, i < 7 → ν'.1 1 i = μ.1 9 i ∧ ν'.1 2 i = μ.1 10 i ∧ ν'.1 3 i = μ.1 11 i ∧ ν'.1 4 i = μ.1 12 i ∧ ν'.1 5 i = μ.1 13 i ∧ ν'.1 6 i = μ.1 14 i ∧ ν'.1 7 i = 0) ∧ ∀ (d : Nat) (P : mm_O), mm_at shM d 97 [] P 97 [.ref 0, a1, .int (nI k)] [] ν = mm_at shM d 97 [] P 188 [.ref 0, a1, .int (nI 7)] [] ν' := by
  intro j
  induction j with
  | zero =>
    intro k ν hk k1 k2
    have hk : k = 7 := by omega
    subst hk
    refine ⟨ν, k1, k2, fun d P => ?_⟩
    rw [qX7_town_97]
    simp only [qX7_town_0, qX7_town_1, qX7_town_2, qX7_town_5, qX7_town_6, qX7_town_7, qX7_town_10, qX7_town_11, qX7_town_12, qX7_town_15, qX7_town_16, qX7_town_17, qX7_town_20, qX7_town_21, qX7_town_22, qX7_town_25, qX7_town_26, qX7_town_28, qX7_town_31, qX7_town_32, qX7_town_35, qX7_town_38, qX7_town_39, qX7_town_42, qX7_town_43, qX7_town_46, qX7_town_47, qX7_town_48, qX7_town_51, qX7_town_52, qX7_town_55, qX7_town_57, qX7_town_58, qX7_town_59, qX7_town_60, qX7_town_61, qX7_town_62, qX7_town_65, qX7_town_68, qX7_town_69, qX7_town_70, qX7_town_73, qX7_town_76, qX7_town_77, qX7_town_78, qX7_town_81, qX7_town_84, qX7_town_85, qX7_town_88, qX7_town_89, qX7_town_92, qX7_town_95, qX7_town_96, qX7_town_98, qX7_town_100, qX7_town_103, qX7_town_104, qX7_town_107, qX7_town_108, qX7_town_109, qX7_town_112, qX7_town_113, qX7_town_114, qX7_town_115, qX7_town_116, qX7_town_119, qX7_town_120, qX7_town_121, qX7_town_124, qX7_town_125, qX7_town_126, qX7_town_127, qX7_town_128, qX7_town_131, qX7_town_132, qX7_town_133, qX7_town_136, qX7_town_137, qX7_town_138, qX7_town_139, qX7_town_140, qX7_town_143, qX7_town_144, qX7_town_145, qX7_town_148, qX7_town_149, qX7_town_150, qX7_town_151, qX7_town_152, qX7_town_155, qX7_town_156, qX7_town_157, qX7_town_160, qX7_town_161, qX7_town_162, qX7_town_163, qX7_town_164, qX7_town_167, qX7_town_168, qX7_town_169, qX7_town_172, qX7_town_173, qX7_town_174, qX7_town_175, qX7_town_176, qX7_town_179, qX7_town_180, qX7_town_181, qX7_town_182, qX7_town_185, qX7_town_189, qX7_town_190, qX7_town_193, qX7_town_194, qX7_town_195, qX7_town_198, qX7_town_199, qX7_town_202, qX7_town_203, qX7_town_204, qX7_town_205, qX7_town_206, qX7_town_209, qX7_town_210, qX7_town_211, qX7_town_212, qX7_town_213, qX7_town_216, show (7 : Int32) ≤ nI 7 by decide, if_true]
  | succ j ih =>
    intro k ν hk k1 k2
    have h1 : ¬ (7 : Int32) ≤ nI k := show ¬ nI 7 ≤ nI k from nI_ge (by omega) (by decide)
    have h2 : vp_in (nI k) 7 := vp_in_nI (by omega) (by decide)
    have h3 : (nI k).toNatClampNeg = k := nI_clamp (by omega)
    have z9 := k1 9 (by omega); have z10 := k1 10 (by omega); have z11 := k1 11 (by omega); have z12 := k1 12 (by omega); have z13 := k1 13 (by omega); have z14 := k1 14 (by omega)
    generalize hξ : mm_set (mm_set (mm_set (mm_set (mm_set (mm_set (mm_set ν 1 (upd (ν.1 1) k (μ.1 9 k))) 2 (upd (ν.1 2) k (μ.1 10 k))) 3 (upd (ν.1 3) k (μ.1 11 k))) 4 (upd (ν.1 4) k (μ.1 12 k))) 5 (upd (ν.1 5) k (μ.1 13 k))) 6 (upd (ν.1 6) k (μ.1 14 k))) 7 (upd (ν.1 7) k 0) = ξ
    have x1 : ξ.1 1 = upd (ν.1 1) k (μ.1 9 k) ∧ ξ.1 2 = upd (ν.1 2) k (μ.1 10 k) ∧ ξ.1 3 = upd (ν.1 3) k (μ.1 11 k) ∧ ξ.1 4 = upd (ν.1 4) k (μ.1 12 k) ∧ ξ.1 5 = upd (ν.1 5) k (μ.1 13 k) ∧ ξ.1 6 = upd (ν.1 6) k (μ.1 14 k) ∧ ξ.1 7 = upd (ν.1 7) k 0 := by rw [← hξ]; simp [mm_set_1]
    have xo : ∀ c, c = 0 ∨ 7 < c → ξ.1 c = ν.1 c := fun c hc => by
      rw [← hξ]
      simp [mm_set_1, show c ≠ 1 by omega, show c ≠ 2 by omega, show c ≠ 3 by omega, show c ≠ 4 by omega, show c ≠ 5 by omega, show c ≠ 6 by omega, show c ≠ 7 by omega]
    obtain ⟨ν', i1, i2, i3⟩ := ih (k + 1) ξ (by omega) (fun c hc => by rw [xo c hc]; exact k1 c hc) (fun i hi => by
      obtain ⟨y1, y2, y3, y4, y5, y6, y7⟩ := x1
      rw [y1, y2, y3, y4, y5, y6, y7]
      simp only [upd_1]
      by_cases e : i = k
      · simp [e]
      · simp only [e, if_false]; exact k2 i (by omega))
    refine ⟨ν', i1, i2, fun d P => ?_⟩
    rw [← i3 d P, qX7_town_97]
    simp only [qX7_town_0, qX7_town_1, qX7_town_2, qX7_town_5, qX7_town_6, qX7_town_7, qX7_town_10, qX7_town_11, qX7_town_12, qX7_town_15, qX7_town_16, qX7_town_17, qX7_town_20, qX7_town_21, qX7_town_22, qX7_town_25, qX7_town_26, qX7_town_28, qX7_town_31, qX7_town_32, qX7_town_35, qX7_town_38, qX7_town_39, qX7_town_42, qX7_town_43, qX7_town_46, qX7_town_47, qX7_town_48, qX7_town_51, qX7_town_52, qX7_town_55, qX7_town_57, qX7_town_58, qX7_town_59, qX7_town_60, qX7_town_61, qX7_town_62, qX7_town_65, qX7_town_68, qX7_town_69, qX7_town_70, qX7_town_73, qX7_town_76, qX7_town_77, qX7_town_78, qX7_town_81, qX7_town_84, qX7_town_85, qX7_town_88, qX7_town_89, qX7_town_92, qX7_town_95, qX7_town_96, qX7_town_98, qX7_town_100, qX7_town_103, qX7_town_104, qX7_town_107, qX7_town_108, qX7_town_109, qX7_town_112, qX7_town_113, qX7_town_114, qX7_town_115, qX7_town_116, qX7_town_119, qX7_town_120, qX7_town_121, qX7_town_124, qX7_town_125, qX7_town_126, qX7_town_127, qX7_town_128, qX7_town_131, qX7_town_132, qX7_town_133, qX7_town_136, qX7_town_137, qX7_town_138, qX7_town_139, qX7_town_140, qX7_town_143, qX7_town_144, qX7_town_145, qX7_town_148, qX7_town_149, qX7_town_150, qX7_town_151, qX7_town_152, qX7_town_155, qX7_town_156, qX7_town_157, qX7_town_160, qX7_town_161, qX7_town_162, qX7_town_163, qX7_town_164, qX7_town_167, qX7_town_168, qX7_town_169, qX7_town_172, qX7_town_173, qX7_town_174, qX7_town_175, qX7_town_176, qX7_town_179, qX7_town_180, qX7_town_181, qX7_town_182, qX7_town_185, qX7_town_189, qX7_town_190, qX7_town_193, qX7_town_194, qX7_town_195, qX7_town_198, qX7_town_199, qX7_town_202, qX7_town_203, qX7_town_204, qX7_town_205, qX7_town_206, qX7_town_209, qX7_town_210, qX7_town_211, qX7_town_212, qX7_town_213, qX7_town_216, h1, h2, h3, if_false, true_and, mm_sti_set, mm_set_1, Nat.reduceEqDiff, if_true, z9, z10, z11, z12, z13, z14, nI_1]
    rw [← hξ]
theorem s_becomeTold {σ : mm_M} : ∃ σ' : mm_M, (∀ k, k < 11 ∨ 18 < k → σ'.1 k = σ.1 k) ∧ (∀ q, q ≠ 7 → q ≠ 8 → q ≠ 9 → σ'.1 11 q = σ.1 11 q) ∧ σ'.1 11 7 = σ.1 3 7 ∧ σ'.1 11 8 = σ.1 3 8 ∧ σ'.1 11 9 = σ.1 3 9 ∧ (∀ i, i < 7 → σ'.1 12 i = σ.1 4 i ∧ σ'.1 13 i = σ.1 5 i ∧ σ'.1 14 i = σ.1 6 i ∧ σ'.1 15 i = σ.1 7 i ∧ σ'.1 16 i = σ.1 8 i ∧ σ'.1 17 i = σ.1 9 i ∧ σ'.1 18 i = σ.1 10 i) ∧ ∀ (d : Nat) (P : mm_O), mm_run shC (d + 2) 43 [.ref 11, .ref 3] σ P = P none σ' := by
  have f (a b : Nat) (ha : shC[a]? = some (.inl (.int, 7))) (hb : shC[b]? = some (.inl (.int, 7))) (hab : a ≠ b) (σ : mm_M) (d : Nat) (P : mm_O) := s_copyRow (d := d) (P := P) (σ := σ) (a := a) (b := b) (n := 7) ha hb hab (by decide)
  have f1 := f 4 12 rfl rfl (by decide)
  have f2 := f 5 13 rfl rfl (by decide)
  have f3 := f 6 14 rfl rfl (by decide)
  have f4 := f 7 15 rfl rfl (by decide)
  have f5 := f 8 16 rfl rfl (by decide)
  have f6 := f 9 17 rfl rfl (by decide)
  have f7 := f 10 18 rfl rfl (by decide)
  refine ⟨mm_set (mm_set (mm_set (mm_set (mm_set (mm_set (mm_set (mm_set σ 12 (fun i => if i < 7 then σ.1 4 i else σ.1 12 i)) 13 (fun i => if i < 7 then σ.1 5 i else σ.1 13 i)) 14 (fun i => if i < 7 then σ.1 6 i else σ.1 14 i)) 15 (fun i => if i < 7 then σ.1 7 i else σ.1 15 i)) 16 (fun i => if i < 7 then σ.1 8 i else σ.1 16 i)) 17 (fun i => if i < 7 then σ.1 9 i else σ.1 17 i)) 18 (fun i => if i < 7 then σ.1 10 i else σ.1 18 i)) 11 (upd (upd (upd (σ.1 11) 7 (σ.1 3 7)) 8 (σ.1 3 8)) 9 (σ.1 3 9)), fun k hk => ?_, fun q a b c => ?_, ?_, ?_, ?_, fun i hi => ?_, fun d P => ?_⟩
  · simp [mm_set_1, show k ≠ 11 by omega, show k ≠ 12 by omega, show k ≠ 13 by omega, show k ≠ 14 by omega, show k ≠ 15 by omega, show k ≠ 16 by omega, show k ≠ 17 by omega, show k ≠ 18 by omega]
  · simp [mm_set_1, upd_1, a, b, c]
  · simp [mm_set_1, upd_1]
  · simp [mm_set_1, upd_1]
  · simp [mm_set_1, upd_1]
  · simp [mm_set_1, hi]
  · rw [in_X5_becomeTold]
    simp only [qX5_becomeTold_0, qX5_becomeTold_1a, qX5_becomeTold_1b, qX5_becomeTold_4, qX5_becomeTold_5a, qX5_becomeTold_5b, qX5_becomeTold_8, qX5_becomeTold_11, qX5_becomeTold_12a, qX5_becomeTold_12b, qX5_becomeTold_15, qX5_becomeTold_16a, qX5_becomeTold_16b, qX5_becomeTold_19, qX5_becomeTold_22, qX5_becomeTold_23a, qX5_becomeTold_23b, qX5_becomeTold_26, qX5_becomeTold_27a, qX5_becomeTold_27b, qX5_becomeTold_30, qX5_becomeTold_33, qX5_becomeTold_34a, qX5_becomeTold_34b, qX5_becomeTold_37, qX5_becomeTold_38a, qX5_becomeTold_38b, qX5_becomeTold_41, qX5_becomeTold_44, qX5_becomeTold_45a, qX5_becomeTold_45b, qX5_becomeTold_48, qX5_becomeTold_49a, qX5_becomeTold_49b, qX5_becomeTold_52, qX5_becomeTold_55, qX5_becomeTold_56a, qX5_becomeTold_56b, qX5_becomeTold_59, qX5_becomeTold_60a, qX5_becomeTold_60b, qX5_becomeTold_63, qX5_becomeTold_66, qX5_becomeTold_67a, qX5_becomeTold_67b, qX5_becomeTold_70, qX5_becomeTold_71a, qX5_becomeTold_71b, qX5_becomeTold_74, qX5_becomeTold_77, qX5_becomeTold_78, qX5_becomeTold_79a, qX5_becomeTold_79b, qX5_becomeTold_82a, qX5_becomeTold_82b, qX5_becomeTold_85, qX5_becomeTold_86, qX5_becomeTold_87a, qX5_becomeTold_87b, qX5_becomeTold_90a, qX5_becomeTold_90b, qX5_becomeTold_93, qX5_becomeTold_94, qX5_becomeTold_95a, qX5_becomeTold_95b, qX5_becomeTold_98a, qX5_becomeTold_98b, qX5_becomeTold_101, f1, f2, f3, f4, f5, f6, f7, mm_sti_set, mm_set_1, mm_set_set, Nat.reduceEqDiff, if_true, if_false, Option.toList, List.nil_append]
theorem call_town : Call 47 97 [] := by
  intro σ μ h
  obtain ⟨n, np, h1, h2, h3, h4, h5, h6, h7⟩ := h
  obtain ⟨B, T, hC, hM⟩ := h2.bytes
  -- the start
  generalize hσ0 : mm_set (mm_set σ 3 (upd (upd (upd (σ.1 3) 7 0) 8 0) 9 1)) 1 (upd (upd (upd (upd (σ.1 1) 6 0) 4 0) 5 0) 3 (-1)) = σ0
  have a0 : ∀ k, k ≠ 1 → k ≠ 3 → σ0.1 k = σ.1 k := fun k a b => by rw [← hσ0, mm_set_ne _ _ a, mm_set_ne _ _ b]
  have a1 : σ0.1 1 = upd (upd (upd (upd (σ.1 1) 6 0) 4 0) 5 0) 3 (-1) := by rw [← hσ0, mm_set_same]
  have a3 : σ0.1 3 = upd (upd (upd (σ.1 3) 7 0) 8 0) 9 1 := by rw [← hσ0, mm_set_ne _ _ (by decide), mm_set_same]
  have hC0 : TXC σ0 B T := ⟨hC.1, by rw [a1]; exact hC.2.1, fun k hk => by rw [a0 2 (by decide) (by decide)]; exact hC.2.2 k hk⟩
  generalize hμ0 : mm_set μ 0 (upd (upd (upd (upd (upd (μ.1 0) 14 (-1)) 15 0) 20 0) 23 0) 28 (-1)) = μ0
  have b0 : ∀ k, k ≠ 0 → μ0.1 k = μ.1 k := fun k a => by rw [← hμ0, mm_set_ne _ _ a]
  have b1 : μ0.1 0 = upd (upd (upd (upd (upd (μ.1 0) 14 (-1)) 15 0) 20 0) 23 0) 28 (-1) := by rw [← hμ0, mm_set_same]
  have hM0 : TXM μ0 B T := hM.f2 (b0 8 (by decide)) (by rw [b1]; rfl)
  have sk := fun (d : Nat) (P : mm_O) => s_skipBlanks (d := d) (P := P) (σ := σ0) (p := 0) (Nat.zero_le _) hC0 (by rw [a1]; rfl)
  generalize hq : enF_ (isB B) T 0 = q at sk
  generalize hσ1 : mm_set σ0 1 (upd (σ0.1 1) 4 (nI q)) = σ1 at sk
  have o0 : ∀ k, k ≠ 1 → σ1.1 k = σ0.1 k := fun k hk => by rw [← hσ1, mm_set_ne _ _ hk]
  have oq : ∀ x, x ≠ 4 → σ1.1 1 x = σ0.1 1 x := fun x hx => by rw [← hσ1, mm_set_same, upd_1, if_neg hx]
  have o4 : σ1.1 1 4 = nI q := by rw [← hσ1, mm_set_same, upd_1, if_pos rfl]
  have hC1 : TXC σ1 B T := by rw [← hσ1]; exact hC0.pos _
  have pr0 : PR σ1 μ0 0 0 := by
    unfold PR
    rw [o0 3 (by decide), oq 6 (by decide), a3, a1, b1]
    exact ⟨⟨rfl, rfl, by decide⟩, ⟨rfl, rfl, by decide⟩, fun p hp => by omega, fun l hl => by omega, Or.inl ⟨rfl, rfl, rfl⟩⟩
  obtain ⟨σ2, μ2, r, x1, r3, i2, i3, i4, i5, i6, i7, i8, i9⟩ := town_loop (B := B) (T := T) T 0 q 0 σ1 μ0 0 0 .null (by omega) (Nat.zero_le _) hq (Nat.zero_le _) hC1 hM0 o4 (by rw [oq 5 (by decide), a1]; rfl) (by rw [b1]; rfl) pr0
  generalize hσ3 : mm_set σ2 1 (upd (σ2.1 1) 2 0) = σ3
  have c0 : ∀ k, k ≠ 1 → σ3.1 k = σ2.1 k := fun k hk => by rw [← hσ3, mm_set_ne _ _ hk]
  have cq : ∀ x, x ≠ 2 → σ3.1 1 x = σ2.1 1 x := fun x hx => by rw [← hσ3, mm_set_same, upd_1, if_neg hx]
  have c2 : σ3.1 1 2 = 0 := by rw [← hσ3, mm_set_same, upd_1, if_pos rfl]
  generalize hμ3 : mm_set μ2 0 (upd (μ2.1 0) 13 0) = μ3
  have d0 : ∀ k, k ≠ 0 → μ3.1 k = μ2.1 k := fun k hk => by rw [← hμ3, mm_set_ne _ _ hk]
  have dq : ∀ x, x ≠ 13 → μ3.1 0 x = μ2.1 0 x := fun x hx => by rw [← hμ3, mm_set_same, upd_1, if_neg hx]
  have d13 : μ3.1 0 13 = 0 := by rw [← hμ3, mm_set_same, upd_1, if_pos rfl]
  have frC : ∀ k, k ≠ 1 → k < 3 ∨ 10 < k → σ3.1 k = σ.1 k := fun k a b => by rw [c0 k a, i2 k a b, o0 k a]; exact a0 k a (by omega)
  have frM : ∀ k, k ≠ 0 → k < 9 ∨ 14 < k → μ3.1 k = μ.1 k := fun k a b => by rw [d0 k a, i3 k a b]; exact b0 k a
  have frS : ∀ x, x < 13 ∨ 28 < x → μ3.1 0 x = μ.1 0 x := fun x a => by
    rw [dq x (by omega), i4 x (by omega), b1]
    simp only [upd_1]
    rw [if_neg (by omega), if_neg (by omega), if_neg (by omega), if_neg (by omega), if_neg (by omega)]
  have rd : ∀ (d : Nat) (P : mm_O), mm_run shC (d + 6) 3 [.ref 1] σ P = P (some (.int (nI r))) σ3 := fun d P => by
    rw [in_X1_read]
    simp only [qX1_read_0, qX1_read_1, qX1_read_4, qX1_read_5, qX1_read_8, qX1_read_9, qX1_read_12, qX1_read_13, qX1_read_16, qX1_read_17, qX1_read_20, qX1_read_21, qX1_read_24, qX1_read_25, qX1_read_26, qX1_read_29, qX1_read_30, qX1_read_31, qX1_read_34, qX1_read_35, qX1_read_36, qX1_read_39, qX1_read_40, qX1_read_41, qX1_read_44, qX1_read_45, qX1_read_48, qX1_read_49, qX1_read_51, qX1_read_54, qX1_read_57, qX1_read_58, qX1_read_61, qX1_read_62, qX1_read_65, qX1_read_68, qX1_read_69, qX1_read_72, qX1_read_75, qX1_read_76, qX1_read_79, qX1_read_80, qX1_read_83, qX1_read_86, qX1_read_90, qX1_read_91, qX1_read_94, qX1_read_95, qX1_read_98, true_or, true_and, mm_sti_set, mm_set_1, mm_set_set, Nat.reduceEqDiff, if_true, if_false]
    rw [hσ0]
    simp only [sk, qX1_read_0, qX1_read_1, qX1_read_4, qX1_read_5, qX1_read_8, qX1_read_9, qX1_read_12, qX1_read_13, qX1_read_16, qX1_read_17, qX1_read_20, qX1_read_21, qX1_read_24, qX1_read_25, qX1_read_26, qX1_read_29, qX1_read_30, qX1_read_31, qX1_read_34, qX1_read_35, qX1_read_36, qX1_read_39, qX1_read_40, qX1_read_41, qX1_read_44, qX1_read_45, qX1_read_48, qX1_read_49, qX1_read_51, qX1_read_54, qX1_read_57, qX1_read_58, qX1_read_61, qX1_read_62, qX1_read_65, qX1_read_68, qX1_read_69, qX1_read_72, qX1_read_75, qX1_read_76, qX1_read_79, qX1_read_80, qX1_read_83, qX1_read_86, qX1_read_90, qX1_read_91, qX1_read_94, qX1_read_95, qX1_read_98, Option.toList, List.nil_append]
    have i8' : ∀ (d : Nat) (P : mm_O), mm_at shC (d + 5) 3 [] P 50 [.ref 1, .int 0] [] σ1 = mm_at shC (d + 5) 3 [] P 89 [.ref 1, x1] [] σ2 := i8
    rw [i8']
    have s5 : σ3.1 1 5 = nI r := by rw [cq 5 (by decide)]; exact i5
    simp only [qX1_read_0, qX1_read_1, qX1_read_4, qX1_read_5, qX1_read_8, qX1_read_9, qX1_read_12, qX1_read_13, qX1_read_16, qX1_read_17, qX1_read_20, qX1_read_21, qX1_read_24, qX1_read_25, qX1_read_26, qX1_read_29, qX1_read_30, qX1_read_31, qX1_read_34, qX1_read_35, qX1_read_36, qX1_read_39, qX1_read_40, qX1_read_41, qX1_read_44, qX1_read_45, qX1_read_48, qX1_read_49, qX1_read_51, qX1_read_54, qX1_read_57, qX1_read_58, qX1_read_61, qX1_read_62, qX1_read_65, qX1_read_68, qX1_read_69, qX1_read_72, qX1_read_75, qX1_read_76, qX1_read_79, qX1_read_80, qX1_read_83, qX1_read_86, qX1_read_89, qX1_read_90, qX1_read_91, qX1_read_94, qX1_read_95, qX1_read_98, mm_sti_set, hσ3, s5]
  have tm : ∀ (d : Nat) (P : mm_O), mm_run shM (d + 7) 97 [.ref 0] μ P = mm_at shM (d + 6) 97 [] P 51 [.ref 0, .int (nI r), .null] [] μ3 := fun d P => by
    rw [in_X7_town]
    simp only [qX7_town_0, qX7_town_1, qX7_town_2, qX7_town_5, qX7_town_6, qX7_town_7, qX7_town_10, qX7_town_11, qX7_town_12, qX7_town_15, qX7_town_16, qX7_town_17, qX7_town_20, qX7_town_21, qX7_town_22, qX7_town_25, qX7_town_26, qX7_town_28, qX7_town_31, qX7_town_32, qX7_town_35, qX7_town_38, qX7_town_39, qX7_town_42, qX7_town_43, qX7_town_46, qX7_town_47, qX7_town_48, qX7_town_52, qX7_town_55, qX7_town_57, qX7_town_58, qX7_town_59, qX7_town_60, qX7_town_61, qX7_town_62, qX7_town_65, qX7_town_68, qX7_town_69, qX7_town_70, qX7_town_73, qX7_town_76, qX7_town_77, qX7_town_78, qX7_town_81, qX7_town_84, qX7_town_85, qX7_town_88, qX7_town_89, qX7_town_92, qX7_town_95, qX7_town_96, qX7_town_98, qX7_town_100, qX7_town_103, qX7_town_104, qX7_town_107, qX7_town_108, qX7_town_109, qX7_town_112, qX7_town_113, qX7_town_114, qX7_town_115, qX7_town_116, qX7_town_119, qX7_town_120, qX7_town_121, qX7_town_124, qX7_town_125, qX7_town_126, qX7_town_127, qX7_town_128, qX7_town_131, qX7_town_132, qX7_town_133, qX7_town_136, qX7_town_137, qX7_town_138, qX7_town_139, qX7_town_140, qX7_town_143, qX7_town_144, qX7_town_145, qX7_town_148, qX7_town_149, qX7_town_150, qX7_town_151, qX7_town_152, qX7_town_155, qX7_town_156, qX7_town_157, qX7_town_160, qX7_town_161, qX7_town_162, qX7_town_163, qX7_town_164, qX7_town_167, qX7_town_168, qX7_town_169, qX7_town_172, qX7_town_173, qX7_town_174, qX7_town_175, qX7_town_176, qX7_town_179, qX7_town_180, qX7_town_181, qX7_town_182, qX7_town_185, qX7_town_188, qX7_town_189, qX7_town_190, qX7_town_193, qX7_town_194, qX7_town_195, qX7_town_198, qX7_town_199, qX7_town_202, qX7_town_203, qX7_town_204, qX7_town_205, qX7_town_206, qX7_town_209, qX7_town_210, qX7_town_211, qX7_town_212, qX7_town_213, qX7_town_216, mm_sti_set, mm_set_1, mm_set_set, if_true]
    rw [hμ0]
    have i9' : ∀ (d : Nat) (P : mm_O), mm_at shM (d + 6) 97 [] P 27 [.ref 0, .int 0, .null] [] μ0 = mm_at shM (d + 6) 97 [] P 46 [.ref 0, .int (nI r), .null] [] μ2 := i9
    rw [i9']
    simp only [qX7_town_0, qX7_town_1, qX7_town_2, qX7_town_5, qX7_town_6, qX7_town_7, qX7_town_10, qX7_town_11, qX7_town_12, qX7_town_15, qX7_town_16, qX7_town_17, qX7_town_20, qX7_town_21, qX7_town_22, qX7_town_25, qX7_town_26, qX7_town_28, qX7_town_31, qX7_town_32, qX7_town_35, qX7_town_38, qX7_town_39, qX7_town_42, qX7_town_43, qX7_town_46, qX7_town_47, qX7_town_48, qX7_town_52, qX7_town_55, qX7_town_57, qX7_town_58, qX7_town_59, qX7_town_60, qX7_town_61, qX7_town_62, qX7_town_65, qX7_town_68, qX7_town_69, qX7_town_70, qX7_town_73, qX7_town_76, qX7_town_77, qX7_town_78, qX7_town_81, qX7_town_84, qX7_town_85, qX7_town_88, qX7_town_89, qX7_town_92, qX7_town_95, qX7_town_96, qX7_town_98, qX7_town_100, qX7_town_103, qX7_town_104, qX7_town_107, qX7_town_108, qX7_town_109, qX7_town_112, qX7_town_113, qX7_town_114, qX7_town_115, qX7_town_116, qX7_town_119, qX7_town_120, qX7_town_121, qX7_town_124, qX7_town_125, qX7_town_126, qX7_town_127, qX7_town_128, qX7_town_131, qX7_town_132, qX7_town_133, qX7_town_136, qX7_town_137, qX7_town_138, qX7_town_139, qX7_town_140, qX7_town_143, qX7_town_144, qX7_town_145, qX7_town_148, qX7_town_149, qX7_town_150, qX7_town_151, qX7_town_152, qX7_town_155, qX7_town_156, qX7_town_157, qX7_town_160, qX7_town_161, qX7_town_162, qX7_town_163, qX7_town_164, qX7_town_167, qX7_town_168, qX7_town_169, qX7_town_172, qX7_town_173, qX7_town_174, qX7_town_175, qX7_town_176, qX7_town_179, qX7_town_180, qX7_town_181, qX7_town_182, qX7_town_185, qX7_town_188, qX7_town_189, qX7_town_190, qX7_town_193, qX7_town_194, qX7_town_195, qX7_town_198, qX7_town_199, qX7_town_202, qX7_town_203, qX7_town_204, qX7_town_205, qX7_town_206, qX7_town_209, qX7_town_210, qX7_town_211, qX7_town_212, qX7_town_213, qX7_town_216, mm_sti_set, hμ3]
  by_cases z : r = 0
  · subst z
    obtain ⟨⟨np', nl', pr'⟩, i63, i64⟩ := i6 rfl
    have pr3 : PR σ3 μ3 np' nl' := pr'.ag (fun k hk => c0 k (by omega)) (cq 6 (by decide)) (fun k hk => d0 k (by omega)) (fun q hq => dq q (by omega))
    obtain ⟨⟨p1, p2, p3⟩, ⟨p4, p5, p6⟩, p7, p8, p9⟩ := pr3
    obtain ⟨σ4, t1, t2, t3, t4, t5, t6, t7⟩ := s_becomeTold (σ := σ3)
    generalize hσ5 : mm_set (mm_set (mm_set σ4 0 (upd (upd (σ4.1 0) 11 0) 12 0)) 33 (upd (σ4.1 33) 6 0)) 37 (upd (σ4.1 37) 6 0) = σ5
    have u0 : ∀ k, k ≠ 0 → k ≠ 33 → k ≠ 37 → σ5.1 k = σ4.1 k := fun k a b c => by rw [← hσ5, mm_set_ne _ _ c, mm_set_ne _ _ b, mm_set_ne _ _ a]
    have u1 : σ5.1 0 11 = 0 ∧ σ5.1 0 12 = 0 ∧ σ5.1 33 6 = 0 ∧ σ5.1 37 6 = 0 := by rw [← hσ5]; simp [mm_set_1, upd_1]
    have hcost : ∃ co, co ≤ 99 ∧ σ3.1 3 9 = nI co ∧ (if μ3.1 0 28 < 0 then 1 else μ3.1 0 28) = nI co := by
      rcases p9 with ⟨q1, q2, q3⟩ | ⟨q1, c, hc, q2, q3⟩
      · exact ⟨1, by decide, q2, by rw [q3]; rfl⟩
      · exact ⟨c, hc, q2, by rw [q3, if_neg (nI_neg (by omega))]⟩
    obtain ⟨co, hco, co1, co2⟩ := hcost
    generalize hμ4 : mm_set μ3 0 (upd (upd (upd (μ3.1 0) 0 (nI np')) 3 (nI nl')) 9 (nI co)) = μ4
    have g0 : ∀ k, k ≠ 0 → μ4.1 k = μ3.1 k := fun k hk => by rw [← hμ4, mm_set_ne _ _ hk]
    have gq : ∀ q, q ≠ 0 → q ≠ 3 → q ≠ 9 → μ4.1 0 q = μ3.1 0 q := fun q a b c => by rw [← hμ4, mm_set_same, upd_1, upd_1, upd_1, if_neg c, if_neg b, if_neg a]
    have g1 : μ4.1 0 0 = nI np' ∧ μ4.1 0 3 = nI nl' ∧ μ4.1 0 9 = nI co := by rw [← hμ4]; simp [mm_set_1, upd_1]
    obtain ⟨ν, v1, v2, v3⟩ := town_copy (μ := μ4) (a1 := .int (nI 0)) 7 0 μ4 (by omega) (fun _ _ => rfl) (fun i hi => by omega)
    generalize hν5 : mm_set (mm_set ν 0 (upd (upd (ν.1 0) 36 0) 38 0)) 24 (upd (upd (ν.1 24) 0 0) 1 0) = ν5
    have w0 : ∀ k, k ≠ 0 → k ≠ 24 → ν5.1 k = ν.1 k := fun k a b => by rw [← hν5, mm_set_ne _ _ b, mm_set_ne _ _ a]
    have wq : ∀ q, q ≠ 36 → q ≠ 38 → ν5.1 0 q = ν.1 0 q := fun q a b => by rw [← hν5, mm_set_ne _ _ (by decide), mm_set_same, upd_1, upd_1, if_neg b, if_neg a]
    have w1 : ν5.1 0 36 = 0 ∧ ν5.1 0 38 = 0 ∧ ν5.1 24 0 = 0 ∧ ν5.1 24 1 = 0 := by rw [← hν5]; simp [mm_set_1, upd_1]
    have v0 := v1 0 (Or.inl rfl)
    refine ⟨nI nl', σ5, ν5, ⟨nl', np', ?_, ⟨0, by decide, ?_, ?_, fun k hk => by omega⟩, ?_, ⟨0, fun _ => 0, Nat.zero_le _, u1.1, w1.1, fun k hk => by omega, fun i j hi => by omega⟩, ⟨0, by decide, u1.2.1, w1.2.1, fun k hk => by omega⟩, Or.inl ⟨u1.2.2.1, w1.2.2.1⟩, Or.inl ⟨u1.2.2.2, w1.2.2.2⟩⟩, fun d P => ?_, fun d P => ?_⟩
    · obtain ⟨q1, q2, q3, q4, q5, q6, q7⟩ := h1
      refine ⟨⟨?_, ?_, p3⟩, ⟨?_, ?_, p6⟩, fun p hp => ?_, fun l hl => ?_, ⟨?_, ?_⟩, ⟨?_, ?_⟩, ⟨?_, ?_⟩⟩
      · rw [u0 11 (by decide) (by decide) (by decide), t3]; exact p1
      · rw [wq 0 (by decide) (by decide), v0]; exact g1.1
      · rw [u0 11 (by decide) (by decide) (by decide), t4]; exact p4
      · rw [wq 3 (by decide) (by decide), v0]; exact g1.2.1
      · obtain ⟨e1, e2, -⟩ := t6 p (by omega)
        obtain ⟨f1, f2, -⟩ := v2 p (by omega)
        rw [u0 12 (by decide) (by decide) (by decide), u0 13 (by decide) (by decide) (by decide), e1, e2, w0 1 (by decide) (by decide), w0 2 (by decide) (by decide), f1, f2, g0 9 (by decide), g0 10 (by decide)]
        exact p7 p hp
      · obtain ⟨-, -, e3, e4, e5, e6, e7⟩ := t6 l (by omega)
        obtain ⟨-, -, f3, f4, f5, f6, f7⟩ := v2 l (by omega)
        obtain ⟨⟨m1, m2, m3, m4, m5⟩, m6, m7, m8, m9⟩ := p8 l hl
        rw [u0 14 (by decide) (by decide) (by decide), u0 15 (by decide) (by decide) (by decide), u0 16 (by decide) (by decide) (by decide), u0 17 (by decide) (by decide) (by decide), u0 18 (by decide) (by decide) (by decide), e3, e4, e5, e6, e7, w0 3 (by decide) (by decide), w0 4 (by decide) (by decide), w0 5 (by decide) (by decide), w0 6 (by decide) (by decide), w0 7 (by decide) (by decide), f3, f4, f5, f6, f7, g0 11 (by decide), g0 12 (by decide), g0 13 (by decide), g0 14 (by decide)]
        exact ⟨⟨m1, m2, m3, m4, m5⟩, m6, m7, m8, m9, ⟨0, Nat.le_refl _, Nat.zero_le _, m5⟩⟩
      · rw [u0 11 (by decide) (by decide) (by decide), t5, wq 9 (by decide) (by decide), v0, co1]; exact g1.2.2.symm
      · rw [u0 11 (by decide) (by decide) (by decide), t5, co1]; exact ⟨co, Nat.zero_le _, hco, rfl⟩
      · rw [u0 11 (by decide) (by decide) (by decide), t2 10 (by decide) (by decide) (by decide), frC 11 (by decide) (by omega), wq 10 (by decide) (by decide), v0, gq 10 (by decide) (by decide) (by decide), frS 10 (by omega)]; exact q6.1
      · rw [u0 11 (by decide) (by decide) (by decide), t2 10 (by decide) (by decide) (by decide), frC 11 (by decide) (by omega)]; exact q6.2
      · rw [u0 11 (by decide) (by decide) (by decide), t2 11 (by decide) (by decide) (by decide), frC 11 (by decide) (by omega), wq 11 (by decide) (by decide), v0, gq 11 (by decide) (by decide) (by decide), frS 11 (by omega)]; exact q7.1
      · rw [u0 11 (by decide) (by decide) (by decide), t2 11 (by decide) (by decide) (by decide), frC 11 (by decide) (by omega)]; exact q7.2
    · rw [u0 1 (by decide) (by decide) (by decide), t1 1 (by omega)]; exact c2
    · rw [wq 13 (by decide) (by decide), v0, gq 13 (by decide) (by decide) (by decide)]; exact d13
    · rw [u0 1 (by decide) (by decide) (by decide), t1 1 (by omega), cq 3 (by decide), i63, oq 3 (by decide), a1, wq 14 (by decide) (by decide), v0, gq 14 (by decide) (by decide) (by decide), dq 14 (by decide), i64, b1]
      rfl
    · have l8 : σ4.1 11 8 = nI nl' := by rw [t4]; exact p4
      rw [in_X6_town]
      simp only [qX6_town_0, qX6_town_1, qX6_town_4, qX6_town_7, qX6_town_8, qX6_town_9, qX6_town_12, qX6_town_14, qX6_town_15, qX6_town_16, qX6_town_17, qX6_town_18, qX6_town_21, qX6_town_22, qX6_town_25, qX6_town_28, qX6_town_31, qX6_town_32, qX6_town_33, qX6_town_36, qX6_town_37, qX6_town_38, qX6_town_41, qX6_town_42, qX6_town_45, qX6_town_46, qX6_town_49, qX6_town_50, qX6_town_53, qX6_town_54, qX6_town_57, qX6_town_58, qX6_town_61, qX6_town_64, rd, show nI 0 = 0 from rfl, if_true, t7, true_or, true_and, mm_sti_set, mm_set_1, mm_set_set, Nat.reduceEqDiff, if_false, l8, Option.toList, List.cons_append, List.nil_append]
      rw [hσ5]
    · have t := tm (d + 33) P
      rw [show d + 33 + 7 = d + 40 by omega] at t
      rw [t]
      have v3' : ∀ (d : Nat) (P : mm_O), mm_at shM d 97 [] P 97 [.ref 0, .int (nI 0), .int 0] [] μ4 = mm_at shM d 97 [] P 188 [.ref 0, .int (nI 0), .int (nI 7)] [] ν := v3
      have n3 : ν.1 0 3 = nI nl' := by rw [v0]; exact g1.2.1
      by_cases hneg : μ3.1 0 28 < 0
      · rw [if_pos hneg] at co2
        have hz : ¬ 0 ≤ μ3.1 0 28 := Int32.not_le.mpr hneg
        simp only [hz, qX7_town_0, qX7_town_1, qX7_town_2, qX7_town_5, qX7_town_6, qX7_town_7, qX7_town_10, qX7_town_11, qX7_town_12, qX7_town_15, qX7_town_16, qX7_town_17, qX7_town_20, qX7_town_21, qX7_town_22, qX7_town_25, qX7_town_26, qX7_town_28, qX7_town_31, qX7_town_32, qX7_town_35, qX7_town_38, qX7_town_39, qX7_town_42, qX7_town_43, qX7_town_46, qX7_town_47, qX7_town_48, qX7_town_51, qX7_town_52, qX7_town_55, qX7_town_57, qX7_town_58, qX7_town_59, qX7_town_60, qX7_town_61, qX7_town_62, qX7_town_65, qX7_town_68, qX7_town_69, qX7_town_70, qX7_town_73, qX7_town_76, qX7_town_77, qX7_town_78, qX7_town_81, qX7_town_84, qX7_town_85, qX7_town_88, qX7_town_89, qX7_town_92, qX7_town_95, qX7_town_96, qX7_town_98, qX7_town_100, qX7_town_103, qX7_town_104, qX7_town_107, qX7_town_108, qX7_town_109, qX7_town_112, qX7_town_113, qX7_town_114, qX7_town_115, qX7_town_116, qX7_town_119, qX7_town_120, qX7_town_121, qX7_town_124, qX7_town_125, qX7_town_126, qX7_town_127, qX7_town_128, qX7_town_131, qX7_town_132, qX7_town_133, qX7_town_136, qX7_town_137, qX7_town_138, qX7_town_139, qX7_town_140, qX7_town_143, qX7_town_144, qX7_town_145, qX7_town_148, qX7_town_149, qX7_town_150, qX7_town_151, qX7_town_152, qX7_town_155, qX7_town_156, qX7_town_157, qX7_town_160, qX7_town_161, qX7_town_162, qX7_town_163, qX7_town_164, qX7_town_167, qX7_town_168, qX7_town_169, qX7_town_172, qX7_town_173, qX7_town_174, qX7_town_175, qX7_town_176, qX7_town_179, qX7_town_180, qX7_town_181, qX7_town_182, qX7_town_185, qX7_town_189, qX7_town_190, qX7_town_193, qX7_town_194, qX7_town_195, qX7_town_198, qX7_town_199, qX7_town_202, qX7_town_203, qX7_town_204, qX7_town_205, qX7_town_206, qX7_town_209, qX7_town_210, qX7_town_211, qX7_town_212, qX7_town_213, qX7_town_216, show nI 0 ≤ 0 by decide, if_true, p2, p5, co2, mm_sti_set, mm_set_1, mm_set_set, upd_1, Nat.reduceEqDiff, if_false]
        rw [hμ4, v3']
        simp only [qX7_town_0, qX7_town_1, qX7_town_2, qX7_town_5, qX7_town_6, qX7_town_7, qX7_town_10, qX7_town_11, qX7_town_12, qX7_town_15, qX7_town_16, qX7_town_17, qX7_town_20, qX7_town_21, qX7_town_22, qX7_town_25, qX7_town_26, qX7_town_28, qX7_town_31, qX7_town_32, qX7_town_35, qX7_town_38, qX7_town_39, qX7_town_42, qX7_town_43, qX7_town_46, qX7_town_47, qX7_town_48, qX7_town_51, qX7_town_52, qX7_town_55, qX7_town_57, qX7_town_58, qX7_town_59, qX7_town_60, qX7_town_61, qX7_town_62, qX7_town_65, qX7_town_68, qX7_town_69, qX7_town_70, qX7_town_73, qX7_town_76, qX7_town_77, qX7_town_78, qX7_town_81, qX7_town_84, qX7_town_85, qX7_town_88, qX7_town_89, qX7_town_92, qX7_town_95, qX7_town_96, qX7_town_98, qX7_town_100, qX7_town_103, qX7_town_104, qX7_town_107, qX7_town_108, qX7_town_109, qX7_town_112, qX7_town_113, qX7_town_114, qX7_town_115, qX7_town_116, qX7_town_119, qX7_town_120, qX7_town_121, qX7_town_124, qX7_town_125, qX7_town_126, qX7_town_127, qX7_town_128, qX7_town_131, qX7_town_132, qX7_town_133, qX7_town_136, qX7_town_137, qX7_town_138, qX7_town_139, qX7_town_140, qX7_town_143, qX7_town_144, qX7_town_145, qX7_town_148, qX7_town_149, qX7_town_150, qX7_town_151, qX7_town_152, qX7_town_155, qX7_town_156, qX7_town_157, qX7_town_160, qX7_town_161, qX7_town_162, qX7_town_163, qX7_town_164, qX7_town_167, qX7_town_168, qX7_town_169, qX7_town_172, qX7_town_173, qX7_town_174, qX7_town_175, qX7_town_176, qX7_town_179, qX7_town_180, qX7_town_181, qX7_town_182, qX7_town_185, qX7_town_188, qX7_town_189, qX7_town_190, qX7_town_193, qX7_town_194, qX7_town_195, qX7_town_198, qX7_town_199, qX7_town_202, qX7_town_203, qX7_town_204, qX7_town_205, qX7_town_206, qX7_town_209, qX7_town_210, qX7_town_211, qX7_town_212, qX7_town_213, qX7_town_216, mm_sti_set, mm_set_1, mm_set_set, Nat.reduceEqDiff, if_true, if_false, show vp_in (0 : Int32) 2 from vp_in_nI (n := 0) (by decide) (by decide), show vp_in (1 : Int32) 2 from vp_in_nI (n := 1) (by decide) (by decide), show (0 : Int32).toNatClampNeg = 0 from rfl, show (1 : Int32).toNatClampNeg = 1 from rfl, show vp_nar .boolean 0 = 0 from rfl, true_and]
        rw [hν5, show upd (upd (ν.1 0) 36 0) 38 0 3 = ν.1 0 3 from rfl, n3]
      · rw [if_neg hneg] at co2
        have hz : 0 ≤ nI co := nI_pos' (by omega)
        simp only [hz, qX7_town_0, qX7_town_1, qX7_town_2, qX7_town_5, qX7_town_6, qX7_town_7, qX7_town_10, qX7_town_11, qX7_town_12, qX7_town_15, qX7_town_16, qX7_town_17, qX7_town_20, qX7_town_21, qX7_town_22, qX7_town_25, qX7_town_26, qX7_town_28, qX7_town_31, qX7_town_32, qX7_town_35, qX7_town_38, qX7_town_39, qX7_town_42, qX7_town_43, qX7_town_46, qX7_town_47, qX7_town_48, qX7_town_51, qX7_town_52, qX7_town_55, qX7_town_57, qX7_town_58, qX7_town_59, qX7_town_60, qX7_town_61, qX7_town_62, qX7_town_65, qX7_town_68, qX7_town_69, qX7_town_70, qX7_town_73, qX7_town_76, qX7_town_77, qX7_town_78, qX7_town_81, qX7_town_84, qX7_town_85, qX7_town_88, qX7_town_89, qX7_town_92, qX7_town_95, qX7_town_96, qX7_town_98, qX7_town_100, qX7_town_103, qX7_town_104, qX7_town_107, qX7_town_108, qX7_town_109, qX7_town_112, qX7_town_113, qX7_town_114, qX7_town_115, qX7_town_116, qX7_town_119, qX7_town_120, qX7_town_121, qX7_town_124, qX7_town_125, qX7_town_126, qX7_town_127, qX7_town_128, qX7_town_131, qX7_town_132, qX7_town_133, qX7_town_136, qX7_town_137, qX7_town_138, qX7_town_139, qX7_town_140, qX7_town_143, qX7_town_144, qX7_town_145, qX7_town_148, qX7_town_149, qX7_town_150, qX7_town_151, qX7_town_152, qX7_town_155, qX7_town_156, qX7_town_157, qX7_town_160, qX7_town_161, qX7_town_162, qX7_town_163, qX7_town_164, qX7_town_167, qX7_town_168, qX7_town_169, qX7_town_172, qX7_town_173, qX7_town_174, qX7_town_175, qX7_town_176, qX7_town_179, qX7_town_180, qX7_town_181, qX7_town_182, qX7_town_185, qX7_town_189, qX7_town_190, qX7_town_193, qX7_town_194, qX7_town_195, qX7_town_198, qX7_town_199, qX7_town_202, qX7_town_203, qX7_town_204, qX7_town_205, qX7_town_206, qX7_town_209, qX7_town_210, qX7_town_211, qX7_town_212, qX7_town_213, qX7_town_216, show nI 0 ≤ 0 by decide, if_true, p2, p5, co2, mm_sti_set, mm_set_1, mm_set_set, upd_1, Nat.reduceEqDiff, if_false]
        rw [hμ4, v3']
        simp only [qX7_town_0, qX7_town_1, qX7_town_2, qX7_town_5, qX7_town_6, qX7_town_7, qX7_town_10, qX7_town_11, qX7_town_12, qX7_town_15, qX7_town_16, qX7_town_17, qX7_town_20, qX7_town_21, qX7_town_22, qX7_town_25, qX7_town_26, qX7_town_28, qX7_town_31, qX7_town_32, qX7_town_35, qX7_town_38, qX7_town_39, qX7_town_42, qX7_town_43, qX7_town_46, qX7_town_47, qX7_town_48, qX7_town_51, qX7_town_52, qX7_town_55, qX7_town_57, qX7_town_58, qX7_town_59, qX7_town_60, qX7_town_61, qX7_town_62, qX7_town_65, qX7_town_68, qX7_town_69, qX7_town_70, qX7_town_73, qX7_town_76, qX7_town_77, qX7_town_78, qX7_town_81, qX7_town_84, qX7_town_85, qX7_town_88, qX7_town_89, qX7_town_92, qX7_town_95, qX7_town_96, qX7_town_98, qX7_town_100, qX7_town_103, qX7_town_104, qX7_town_107, qX7_town_108, qX7_town_109, qX7_town_112, qX7_town_113, qX7_town_114, qX7_town_115, qX7_town_116, qX7_town_119, qX7_town_120, qX7_town_121, qX7_town_124, qX7_town_125, qX7_town_126, qX7_town_127, qX7_town_128, qX7_town_131, qX7_town_132, qX7_town_133, qX7_town_136, qX7_town_137, qX7_town_138, qX7_town_139, qX7_town_140, qX7_town_143, qX7_town_144, qX7_town_145, qX7_town_148, qX7_town_149, qX7_town_150, qX7_town_151, qX7_town_152, qX7_town_155, qX7_town_156, qX7_town_157, qX7_town_160, qX7_town_161, qX7_town_162, qX7_town_163, qX7_town_164, qX7_town_167, qX7_town_168, qX7_town_169, qX7_town_172, qX7_town_173, qX7_town_174, qX7_town_175, qX7_town_176, qX7_town_179, qX7_town_180, qX7_town_181, qX7_town_182, qX7_town_185, qX7_town_188, qX7_town_189, qX7_town_190, qX7_town_193, qX7_town_194, qX7_town_195, qX7_town_198, qX7_town_199, qX7_town_202, qX7_town_203, qX7_town_204, qX7_town_205, qX7_town_206, qX7_town_209, qX7_town_210, qX7_town_211, qX7_town_212, qX7_town_213, qX7_town_216, mm_sti_set, mm_set_1, mm_set_set, Nat.reduceEqDiff, if_true, if_false, show vp_in (0 : Int32) 2 from vp_in_nI (n := 0) (by decide) (by decide), show vp_in (1 : Int32) 2 from vp_in_nI (n := 1) (by decide) (by decide), show (0 : Int32).toNatClampNeg = 0 from rfl, show (1 : Int32).toNatClampNeg = 1 from rfl, show vp_nar .boolean 0 = 0 from rfl, true_and]
        rw [hν5, show upd (upd (ν.1 0) 36 0) 38 0 3 = ν.1 0 3 from rfl, n3]
  · have rz : ¬ nI r = 0 := fun q => z ((nI_z r3).mp q)
    have rp : ¬ nI r ≤ 0 := show ¬ nI r ≤ nI 0 from nI_ge (by omega) (by omega)
    refine ⟨-10 - nI r, σ3, μ3, ⟨n, np, ?_, ⟨0, by decide, c2, d13, fun k hk => by omega⟩, by rw [cq 3 (by decide), dq 14 (by decide)]; exact i7 z, ?_, ?_, ?_, ?_⟩, fun d P => ?_, fun d P => ?_⟩
    · unfold TwR
      rw [frC 11 (by decide) (by omega), frC 12 (by decide) (by omega), frC 13 (by decide) (by omega), frC 14 (by decide) (by omega), frC 15 (by decide) (by omega), frC 16 (by decide) (by omega), frC 17 (by decide) (by omega), frC 18 (by decide) (by omega), frM 1 (by decide) (by omega), frM 2 (by decide) (by omega), frM 3 (by decide) (by omega), frM 4 (by decide) (by omega), frM 5 (by decide) (by omega), frM 6 (by decide) (by omega), frM 7 (by decide) (by omega), frS 0 (by omega), frS 3 (by omega), frS 9 (by omega), frS 10 (by omega), frS 11 (by omega)]
      exact h1
    · unfold CmR
      rw [frC 0 (by decide) (by omega), frC 42 (by decide) (by omega), frM 20 (by decide) (by omega), frS 36 (by omega)]
      exact h4
    · unfold BkR
      rw [frC 0 (by decide) (by omega), frC 43 (by decide) (by omega), frC 44 (by decide) (by omega), frM 21 (by decide) (by omega), frM 22 (by decide) (by omega), frS 38 (by omega)]
      exact h5
    · exact ImR_c h6 (frC _ (by decide) (by omega)) (frC _ (by decide) (by omega)) (frC _ (by decide) (by omega)) (frC _ (by decide) (by omega)) (by rw [frM 24 (by decide) (by omega)]) (fun q _ _ => by rw [frM 23 (by decide) (by omega)]) h1.2.1.2.2
    · exact ImR_c h7 (frC _ (by decide) (by omega)) (frC _ (by decide) (by omega)) (frC _ (by decide) (by omega)) (frC _ (by decide) (by omega)) (by rw [frM 24 (by decide) (by omega)]) (fun q _ _ => by rw [frM 23 (by decide) (by omega)]) h1.2.1.2.2
    · rw [in_X6_town]
      simp only [qX6_town_0, qX6_town_1, qX6_town_4, qX6_town_7, qX6_town_8, qX6_town_9, qX6_town_12, qX6_town_14, qX6_town_15, qX6_town_16, qX6_town_17, qX6_town_18, qX6_town_21, qX6_town_22, qX6_town_25, qX6_town_28, qX6_town_31, qX6_town_32, qX6_town_33, qX6_town_36, qX6_town_37, qX6_town_38, qX6_town_41, qX6_town_42, qX6_town_45, qX6_town_46, qX6_town_49, qX6_town_50, qX6_town_53, qX6_town_54, qX6_town_57, qX6_town_58, qX6_town_61, qX6_town_64, rd, rz, if_false, Option.toList, List.cons_append, List.nil_append]
    · have t := tm (d + 33) P
      rw [show d + 33 + 7 = d + 40 by omega] at t
      rw [t]
      simp only [qX7_town_0, qX7_town_1, qX7_town_2, qX7_town_5, qX7_town_6, qX7_town_7, qX7_town_10, qX7_town_11, qX7_town_12, qX7_town_15, qX7_town_16, qX7_town_17, qX7_town_20, qX7_town_21, qX7_town_22, qX7_town_25, qX7_town_26, qX7_town_28, qX7_town_31, qX7_town_32, qX7_town_35, qX7_town_38, qX7_town_39, qX7_town_42, qX7_town_43, qX7_town_46, qX7_town_47, qX7_town_48, qX7_town_51, qX7_town_52, qX7_town_55, qX7_town_57, qX7_town_58, qX7_town_59, qX7_town_60, qX7_town_61, qX7_town_62, qX7_town_65, qX7_town_68, qX7_town_69, qX7_town_70, qX7_town_73, qX7_town_76, qX7_town_77, qX7_town_78, qX7_town_81, qX7_town_84, qX7_town_85, qX7_town_88, qX7_town_89, qX7_town_92, qX7_town_95, qX7_town_96, qX7_town_98, qX7_town_100, qX7_town_103, qX7_town_104, qX7_town_107, qX7_town_108, qX7_town_109, qX7_town_112, qX7_town_113, qX7_town_114, qX7_town_115, qX7_town_116, qX7_town_119, qX7_town_120, qX7_town_121, qX7_town_124, qX7_town_125, qX7_town_126, qX7_town_127, qX7_town_128, qX7_town_131, qX7_town_132, qX7_town_133, qX7_town_136, qX7_town_137, qX7_town_138, qX7_town_139, qX7_town_140, qX7_town_143, qX7_town_144, qX7_town_145, qX7_town_148, qX7_town_149, qX7_town_150, qX7_town_151, qX7_town_152, qX7_town_155, qX7_town_156, qX7_town_157, qX7_town_160, qX7_town_161, qX7_town_162, qX7_town_163, qX7_town_164, qX7_town_167, qX7_town_168, qX7_town_169, qX7_town_172, qX7_town_173, qX7_town_174, qX7_town_175, qX7_town_176, qX7_town_179, qX7_town_180, qX7_town_181, qX7_town_182, qX7_town_185, qX7_town_188, qX7_town_189, qX7_town_190, qX7_town_193, qX7_town_194, qX7_town_195, qX7_town_198, qX7_town_199, qX7_town_202, qX7_town_203, qX7_town_204, qX7_town_205, qX7_town_206, qX7_town_209, qX7_town_210, qX7_town_211, qX7_town_212, qX7_town_213, qX7_town_216, rp, if_false]
