/-! THE TEXT: clause by clause, on both sides -/
section LP
variable {B : Nat → Nat} {T : Nat}
theorem PR.ag {σ μ σ' μ' : mm_M} {np nl : Nat} (h : PR σ μ np nl) (c : ∀ k, 3 ≤ k ∧ k ≤ 10 → σ'.1 k = σ.1 k) (c6 : σ'.1 1 6 = σ.1 1 6) (m : ∀ k, 9 ≤ k ∧ k ≤ 14 → μ'.1 k = μ.1 k) (m0 : ∀ q, q = 20 ∨ q = 23 ∨ q = 28 → μ'.1 0 q = μ.1 0 q) : PR σ' μ' np nl := by
  unfold PR
  rw [c 3 (by omega), c 4 (by omega), c 5 (by omega), c 6 (by omega), c 7 (by omega), c 8 (by omega), c 9 (by omega), c 10 (by omega), c6, m 9 (by omega), m 10 (by omega), m 11 (by omega), m 12 (by omega), m 13 (by omega), m 14 (by omega), m0 20 (by omega), m0 23 (by omega), m0 28 (by omega)]
  exact h
theorem town_loop : ∀ (j p0 p c : Nat) (σ μ : mm_M) (np nl : Nat) (a2 : Value), T ≤ p + j → p0 ≤ T → enF_ (isB B) T p0 = p → c ≤ p → TXC σ B T → TXM μ B T → σ.1 1 4 = nI p → σ.1 1 5 = 0 → μ.1 0 15 = nI p0 → PR σ μ np nl → ∃ (σ' μ' : mm_M) (r : Nat) (b1 : Value), r ≤ 3 ∧ (∀ k, k ≠ 1 → k < 3 ∨ 10 < k → σ'.1 k = σ.1 k) ∧ (∀ k, k ≠ 0 → k < 9 ∨ 14 < k → μ'.1 k = μ.1 k) ∧ (∀ q, q < 14 ∨ 28 < q → μ'.1 0 q = μ.1 0 q) ∧ σ'.1 1 5 = nI r ∧ (r = 0 → (∃ np' nl', PR σ' μ' np' nl') ∧ σ'.1 1 3 = σ.1 1 3 ∧ μ'.1 0 14 = μ.1 0 14) ∧ (r ≠ 0 → σ'.1 1 3 = μ'.1 0 14) ∧ (∀ (d : Nat) (P : mm_O), mm_at shC (d + 5) 3 [] P 50 [.ref 1, .int (nI c)] [] σ = mm_at shC (d + 5) 3 [] P 89 [.ref 1, b1] [] σ') ∧ ∀ (d : Nat) (P : mm_O), mm_at shM (d + 6) 97 [] P 27 [.ref 0, .int 0, a2] [] μ = mm_at shM (d + 6) 97 [] P 46 [.ref 0, .int (nI r), a2] [] μ' := by
  intro j
  induction j with
  | zero =>
    intro p0 p c σ μ np nl a2 hj hp0 hp hc hC hM h4 h5 h15 pr
    have l := en_b (c := isB B) hp0
    rw [hp] at l
    have h400 := hC.1
    have hpT : p = T := by omega
    have f1 := fun (d : Nat) (P : mm_O) => s_here (d := d) (P := P) hp0 hM h15
    rw [hp, show heI B T p = -1 from if_neg (by omega)] at f1
    refine ⟨σ, mm_set μ 0 (upd (μ.1 0) 15 (nI p)), 0, .int (nI c), by decide, fun _ _ _ => rfl, fun k a _ => mm_set_ne _ _ a, fun q a => by rw [mm_set_same, upd_1, if_neg (by omega)], h5, fun _ => ⟨⟨np, nl, pr.ag (fun _ _ => rfl) rfl (fun k hk => mm_set_ne _ _ (by omega)) (fun q hq => by rw [mm_set_same, upd_1, if_neg (by omega)])⟩, rfl, by rw [mm_set_same, upd_1, if_neg (by decide)]⟩, fun h => absurd rfl h, fun d P => ?_, fun d P => ?_⟩
    · rw [qX1_read_50]
      by_cases hcc : (400 : Int32) ≤ nI c
      · simp only [qX1_read_0, qX1_read_1, qX1_read_4, qX1_read_5, qX1_read_8, qX1_read_9, qX1_read_12, qX1_read_13, qX1_read_16, qX1_read_17, qX1_read_20, qX1_read_21, qX1_read_24, qX1_read_25, qX1_read_26, qX1_read_29, qX1_read_30, qX1_read_31, qX1_read_34, qX1_read_35, qX1_read_36, qX1_read_39, qX1_read_40, qX1_read_41, qX1_read_44, qX1_read_45, qX1_read_48, qX1_read_49, qX1_read_51, qX1_read_54, qX1_read_57, qX1_read_58, qX1_read_61, qX1_read_62, qX1_read_65, qX1_read_68, qX1_read_69, qX1_read_72, qX1_read_75, qX1_read_76, qX1_read_79, qX1_read_80, qX1_read_83, qX1_read_86, qX1_read_90, qX1_read_91, qX1_read_94, qX1_read_95, qX1_read_98, hcc, if_true]
      · simp only [qX1_read_0, qX1_read_1, qX1_read_4, qX1_read_5, qX1_read_8, qX1_read_9, qX1_read_12, qX1_read_13, qX1_read_16, qX1_read_17, qX1_read_20, qX1_read_21, qX1_read_24, qX1_read_25, qX1_read_26, qX1_read_29, qX1_read_30, qX1_read_31, qX1_read_34, qX1_read_35, qX1_read_36, qX1_read_39, qX1_read_40, qX1_read_41, qX1_read_44, qX1_read_45, qX1_read_48, qX1_read_49, qX1_read_51, qX1_read_54, qX1_read_57, qX1_read_58, qX1_read_61, qX1_read_62, qX1_read_65, qX1_read_68, qX1_read_69, qX1_read_72, qX1_read_75, qX1_read_76, qX1_read_79, qX1_read_80, qX1_read_83, qX1_read_86, qX1_read_90, qX1_read_91, qX1_read_94, qX1_read_95, qX1_read_98, hcc, if_false, h4, hC.2.1, show nI T ≤ nI p from nI_le (by omega) (by omega), if_true]
    · rw [qX7_town_27]
      simp only [qX7_town_0, qX7_town_1, qX7_town_2, qX7_town_5, qX7_town_6, qX7_town_7, qX7_town_10, qX7_town_11, qX7_town_12, qX7_town_15, qX7_town_16, qX7_town_17, qX7_town_20, qX7_town_21, qX7_town_22, qX7_town_25, qX7_town_26, qX7_town_28, qX7_town_31, qX7_town_32, qX7_town_35, qX7_town_38, qX7_town_39, qX7_town_42, qX7_town_43, qX7_town_47, qX7_town_48, qX7_town_51, qX7_town_52, qX7_town_55, qX7_town_57, qX7_town_58, qX7_town_59, qX7_town_60, qX7_town_61, qX7_town_62, qX7_town_65, qX7_town_68, qX7_town_69, qX7_town_70, qX7_town_73, qX7_town_76, qX7_town_77, qX7_town_78, qX7_town_81, qX7_town_84, qX7_town_85, qX7_town_88, qX7_town_89, qX7_town_92, qX7_town_95, qX7_town_96, qX7_town_98, qX7_town_100, qX7_town_103, qX7_town_104, qX7_town_107, qX7_town_108, qX7_town_109, qX7_town_112, qX7_town_113, qX7_town_114, qX7_town_115, qX7_town_116, qX7_town_119, qX7_town_120, qX7_town_121, qX7_town_124, qX7_town_125, qX7_town_126, qX7_town_127, qX7_town_128, qX7_town_131, qX7_town_132, qX7_town_133, qX7_town_136, qX7_town_137, qX7_town_138, qX7_town_139, qX7_town_140, qX7_town_143, qX7_town_144, qX7_town_145, qX7_town_148, qX7_town_149, qX7_town_150, qX7_town_151, qX7_town_152, qX7_town_155, qX7_town_156, qX7_town_157, qX7_town_160, qX7_town_161, qX7_town_162, qX7_town_163, qX7_town_164, qX7_town_167, qX7_town_168, qX7_town_169, qX7_town_172, qX7_town_173, qX7_town_174, qX7_town_175, qX7_town_176, qX7_town_179, qX7_town_180, qX7_town_181, qX7_town_182, qX7_town_185, qX7_town_188, qX7_town_189, qX7_town_190, qX7_town_193, qX7_town_194, qX7_town_195, qX7_town_198, qX7_town_199, qX7_town_202, qX7_town_203, qX7_town_204, qX7_town_205, qX7_town_206, qX7_town_209, qX7_town_210, qX7_town_211, qX7_town_212, qX7_town_213, qX7_town_216, if_true, f1, show (-1 : Int32) < 0 by decide, Option.toList, List.cons_append, List.nil_append]
      rfl
  | succ j ih =>
    intro p0 p c σ μ np nl a2 hj hp0 hp hc hC hM h4 h5 h15 pr
    by_cases hz : T ≤ p
    · exact (ih p0 p c σ μ np nl a2 (by omega) hp0 hp hc hC hM h4 h5 h15 pr)
    have hlt : p < T := by omega
    have h400 := hC.1
    have f1 := fun (d : Nat) (P : mm_O) => s_here (d := d) (P := P) hp0 hM h15
    rw [hp, show heI B T p = nI (B p) from if_pos hlt] at f1
    generalize hμ1 : mm_set μ 0 (upd (μ.1 0) 15 (nI p)) = μ1 at f1
    have e0 : ∀ k, k ≠ 0 → μ1.1 k = μ.1 k := fun k hk => by rw [← hμ1, mm_set_ne _ _ hk]
    have eq : ∀ q, q ≠ 15 → μ1.1 0 q = μ.1 0 q := fun q hq => by rw [← hμ1, mm_set_same, upd_1, if_neg hq]
    have e15 : μ1.1 0 15 = nI p := by rw [← hμ1, mm_set_same, upd_1, if_pos rfl]
    have hpp : enF_ (isB B) T p = p := by rw [← hp]; exact en_id hp0
    have pr1 : PR σ μ1 np nl := pr.ag (fun _ _ => rfl) rfl (fun k hk => e0 k (by omega)) (fun q hq => eq q (by omega))
    obtain ⟨σ1, μ2, r, p', hr, k1, k2, k3, k4, k5, k6, k7, k8, k9, k10, k11⟩ := clause_both hC (hM.f2 (e0 8 (by decide)) (eq 13 (by decide))) hlt hpp h4 h5 e15 pr1
    have hC1 : TXC σ1 B T := ⟨hC.1, by rw [k2]; exact hC.2.1, fun k hk => by rw [k1 2 (by decide) (by omega)]; exact hC.2.2 k hk⟩
    have hM2 : TXM μ2 B T := hM.f2 (by rw [k3 8 (by decide) (by omega), e0 8 (by decide)]) (by rw [k4 13 (by omega), eq 13 (by decide)])
    have sk := fun (d : Nat) (P : mm_O) => s_skipBlanks (d := d) (P := P) k6 hC1 k5
    generalize hq : enF_ (isB B) T p' = q at sk
    have lq := en_b (c := isB B) k6
    rw [hq] at lq
    generalize hσ2 : mm_set σ1 1 (upd (σ1.1 1) 4 (nI q)) = σ2 at sk
    have o0 : ∀ k, k ≠ 1 → σ2.1 k = σ1.1 k := fun k hk => by rw [← hσ2, mm_set_ne _ _ hk]
    have oq : ∀ x, x ≠ 4 → σ2.1 1 x = σ1.1 1 x := fun x hx => by rw [← hσ2, mm_set_same, upd_1, if_neg hx]
    have o4 : σ2.1 1 4 = nI q := by rw [← hσ2, mm_set_same, upd_1, if_pos rfl]
    have hC2 : TXC σ2 B T := by rw [← hσ2]; exact hC1.pos _
    have c400 : ¬ (400 : Int32) ≤ nI c := show ¬ nI 400 ≤ nI c from nI_ge (by omega) (by decide)
    have pT : ¬ nI T ≤ nI p := nI_ge hlt (by omega)
    have bp : ¬ nI (B p) < 0 := nI_neg (by have := (hC.2.2 p hlt).1; omega)
    have cls : ∀ (d : Nat) (P : mm_O), mm_at shC (d + 5) 3 [] P 50 [.ref 1, .int (nI c)] [] σ = mm_at shC (d + 5) 3 [] P 50 [.ref 1, .int (nI (c + 1))] [] σ2 := fun d P => by
      rw [qX1_read_50]
      simp only [qX1_read_0, qX1_read_1, qX1_read_4, qX1_read_5, qX1_read_8, qX1_read_9, qX1_read_12, qX1_read_13, qX1_read_16, qX1_read_17, qX1_read_20, qX1_read_21, qX1_read_24, qX1_read_25, qX1_read_26, qX1_read_29, qX1_read_30, qX1_read_31, qX1_read_34, qX1_read_35, qX1_read_36, qX1_read_39, qX1_read_40, qX1_read_41, qX1_read_44, qX1_read_45, qX1_read_48, qX1_read_49, qX1_read_51, qX1_read_54, qX1_read_57, qX1_read_58, qX1_read_61, qX1_read_62, qX1_read_65, qX1_read_68, qX1_read_69, qX1_read_72, qX1_read_75, qX1_read_76, qX1_read_79, qX1_read_80, qX1_read_83, qX1_read_86, qX1_read_90, qX1_read_91, qX1_read_94, qX1_read_95, qX1_read_98, c400, if_false, h4, hC.2.1, pT, h5, if_true, k10, sk, nI_1, Option.toList, List.nil_append]
    have mdl : ∀ (d : Nat) (P : mm_O), mm_at shM (d + 6) 97 [] P 27 [.ref 0, .int 0, a2] [] μ = mm_at shM (d + 6) 97 [] P 27 [.ref 0, .int (nI r), a2] [] μ2 := fun d P => by
      rw [qX7_town_27]
      simp only [qX7_town_0, qX7_town_1, qX7_town_2, qX7_town_5, qX7_town_6, qX7_town_7, qX7_town_10, qX7_town_11, qX7_town_12, qX7_town_15, qX7_town_16, qX7_town_17, qX7_town_20, qX7_town_21, qX7_town_22, qX7_town_25, qX7_town_26, qX7_town_28, qX7_town_31, qX7_town_32, qX7_town_35, qX7_town_38, qX7_town_39, qX7_town_42, qX7_town_43, qX7_town_47, qX7_town_48, qX7_town_51, qX7_town_52, qX7_town_55, qX7_town_57, qX7_town_58, qX7_town_59, qX7_town_60, qX7_town_61, qX7_town_62, qX7_town_65, qX7_town_68, qX7_town_69, qX7_town_70, qX7_town_73, qX7_town_76, qX7_town_77, qX7_town_78, qX7_town_81, qX7_town_84, qX7_town_85, qX7_town_88, qX7_town_89, qX7_town_92, qX7_town_95, qX7_town_96, qX7_town_98, qX7_town_100, qX7_town_103, qX7_town_104, qX7_town_107, qX7_town_108, qX7_town_109, qX7_town_112, qX7_town_113, qX7_town_114, qX7_town_115, qX7_town_116, qX7_town_119, qX7_town_120, qX7_town_121, qX7_town_124, qX7_town_125, qX7_town_126, qX7_town_127, qX7_town_128, qX7_town_131, qX7_town_132, qX7_town_133, qX7_town_136, qX7_town_137, qX7_town_138, qX7_town_139, qX7_town_140, qX7_town_143, qX7_town_144, qX7_town_145, qX7_town_148, qX7_town_149, qX7_town_150, qX7_town_151, qX7_town_152, qX7_town_155, qX7_town_156, qX7_town_157, qX7_town_160, qX7_town_161, qX7_town_162, qX7_town_163, qX7_town_164, qX7_town_167, qX7_town_168, qX7_town_169, qX7_town_172, qX7_town_173, qX7_town_174, qX7_town_175, qX7_town_176, qX7_town_179, qX7_town_180, qX7_town_181, qX7_town_182, qX7_town_185, qX7_town_188, qX7_town_189, qX7_town_190, qX7_town_193, qX7_town_194, qX7_town_195, qX7_town_198, qX7_town_199, qX7_town_202, qX7_town_203, qX7_town_204, qX7_town_205, qX7_town_206, qX7_town_209, qX7_town_210, qX7_town_211, qX7_town_212, qX7_town_213, qX7_town_216, if_true, f1, bp, if_false, k11, Option.toList, List.cons_append, List.nil_append]
    by_cases z : r = 0
    · subst z
      obtain ⟨g1, g2, ⟨np', nl', g3⟩, g4, g5⟩ := k8 rfl
      obtain ⟨σ', μ', r', b1, i1, i2, i3, i4, i5, i6, i7, i8, i9⟩ := ih p' q (c + 1) σ2 μ2 np' nl' a2 (by omega) k6 hq (by omega) hC2 hM2 o4 (by rw [oq 5 (by decide), k7]; rfl) g2 (g3.ag (fun k hk => o0 k (by omega)) (oq 6 (by decide)) (fun _ _ => rfl) (fun _ _ => rfl))
      refine ⟨σ', μ', r', b1, i1, fun k a b => by rw [i2 k a b, o0 k a]; exact k1 k a b, fun k a b => by rw [i3 k a b, k3 k a b]; exact e0 k a, fun q a => by rw [i4 q a, k4 q a]; exact eq q (by omega), i5, fun hz => ?_, i7, fun d P => ?_, fun d P => ?_⟩
      · obtain ⟨t1, t2, t3⟩ := i6 hz
        exact ⟨t1, by rw [t2, oq 3 (by decide), g4], by rw [t3, g5]; exact eq 14 (by decide)⟩
      · rw [cls]; exact i8 d P
      · rw [mdl]; exact i9 d P
    · have rz : ¬ nI r = 0 := fun h => z ((nI_z hr).mp h)
      refine ⟨σ2, μ2, r, .int (nI (c + 1)), hr, fun k a b => by rw [o0 k a]; exact k1 k a b, fun k a b => by rw [k3 k a b]; exact e0 k a, fun q a => by rw [k4 q a]; exact eq q (by omega), by rw [oq 5 (by decide)]; exact k7, fun h => absurd h z, fun h => by rw [oq 3 (by decide)]; exact k9 h, fun d P => ?_, fun d P => ?_⟩
      · rw [cls, qX1_read_50]
        have s5 : σ2.1 1 5 = nI r := by rw [oq 5 (by decide)]; exact k7
        by_cases hcc : (400 : Int32) ≤ nI (c + 1)
        · simp only [qX1_read_0, qX1_read_1, qX1_read_4, qX1_read_5, qX1_read_8, qX1_read_9, qX1_read_12, qX1_read_13, qX1_read_16, qX1_read_17, qX1_read_20, qX1_read_21, qX1_read_24, qX1_read_25, qX1_read_26, qX1_read_29, qX1_read_30, qX1_read_31, qX1_read_34, qX1_read_35, qX1_read_36, qX1_read_39, qX1_read_40, qX1_read_41, qX1_read_44, qX1_read_45, qX1_read_48, qX1_read_49, qX1_read_51, qX1_read_54, qX1_read_57, qX1_read_58, qX1_read_61, qX1_read_62, qX1_read_65, qX1_read_68, qX1_read_69, qX1_read_72, qX1_read_75, qX1_read_76, qX1_read_79, qX1_read_80, qX1_read_83, qX1_read_86, qX1_read_90, qX1_read_91, qX1_read_94, qX1_read_95, qX1_read_98, hcc, if_true]
        · by_cases hqq : nI T ≤ nI q
          · simp only [qX1_read_0, qX1_read_1, qX1_read_4, qX1_read_5, qX1_read_8, qX1_read_9, qX1_read_12, qX1_read_13, qX1_read_16, qX1_read_17, qX1_read_20, qX1_read_21, qX1_read_24, qX1_read_25, qX1_read_26, qX1_read_29, qX1_read_30, qX1_read_31, qX1_read_34, qX1_read_35, qX1_read_36, qX1_read_39, qX1_read_40, qX1_read_41, qX1_read_44, qX1_read_45, qX1_read_48, qX1_read_49, qX1_read_51, qX1_read_54, qX1_read_57, qX1_read_58, qX1_read_61, qX1_read_62, qX1_read_65, qX1_read_68, qX1_read_69, qX1_read_72, qX1_read_75, qX1_read_76, qX1_read_79, qX1_read_80, qX1_read_83, qX1_read_86, qX1_read_90, qX1_read_91, qX1_read_94, qX1_read_95, qX1_read_98, hcc, if_false, o4, hC2.2.1, hqq, if_true]
          · simp only [qX1_read_0, qX1_read_1, qX1_read_4, qX1_read_5, qX1_read_8, qX1_read_9, qX1_read_12, qX1_read_13, qX1_read_16, qX1_read_17, qX1_read_20, qX1_read_21, qX1_read_24, qX1_read_25, qX1_read_26, qX1_read_29, qX1_read_30, qX1_read_31, qX1_read_34, qX1_read_35, qX1_read_36, qX1_read_39, qX1_read_40, qX1_read_41, qX1_read_44, qX1_read_45, qX1_read_48, qX1_read_49, qX1_read_51, qX1_read_54, qX1_read_57, qX1_read_58, qX1_read_61, qX1_read_62, qX1_read_65, qX1_read_68, qX1_read_69, qX1_read_72, qX1_read_75, qX1_read_76, qX1_read_79, qX1_read_80, qX1_read_83, qX1_read_86, qX1_read_90, qX1_read_91, qX1_read_94, qX1_read_95, qX1_read_98, hcc, if_false, o4, hC2.2.1, hqq, s5, rz]
      · rw [mdl, qX7_town_27]
        simp only [qX7_town_0, qX7_town_1, qX7_town_2, qX7_town_5, qX7_town_6, qX7_town_7, qX7_town_10, qX7_town_11, qX7_town_12, qX7_town_15, qX7_town_16, qX7_town_17, qX7_town_20, qX7_town_21, qX7_town_22, qX7_town_25, qX7_town_26, qX7_town_28, qX7_town_31, qX7_town_32, qX7_town_35, qX7_town_38, qX7_town_39, qX7_town_42, qX7_town_43, qX7_town_47, qX7_town_48, qX7_town_51, qX7_town_52, qX7_town_55, qX7_town_57, qX7_town_58, qX7_town_59, qX7_town_60, qX7_town_61, qX7_town_62, qX7_town_65, qX7_town_68, qX7_town_69, qX7_town_70, qX7_town_73, qX7_town_76, qX7_town_77, qX7_town_78, qX7_town_81, qX7_town_84, qX7_town_85, qX7_town_88, qX7_town_89, qX7_town_92, qX7_town_95, qX7_town_96, qX7_town_98, qX7_town_100, qX7_town_103, qX7_town_104, qX7_town_107, qX7_town_108, qX7_town_109, qX7_town_112, qX7_town_113, qX7_town_114, qX7_town_115, qX7_town_116, qX7_town_119, qX7_town_120, qX7_town_121, qX7_town_124, qX7_town_125, qX7_town_126, qX7_town_127, qX7_town_128, qX7_town_131, qX7_town_132, qX7_town_133, qX7_town_136, qX7_town_137, qX7_town_138, qX7_town_139, qX7_town_140, qX7_town_143, qX7_town_144, qX7_town_145, qX7_town_148, qX7_town_149, qX7_town_150, qX7_town_151, qX7_town_152, qX7_town_155, qX7_town_156, qX7_town_157, qX7_town_160, qX7_town_161, qX7_town_162, qX7_town_163, qX7_town_164, qX7_town_167, qX7_town_168, qX7_town_169, qX7_town_172, qX7_town_173, qX7_town_174, qX7_town_175, qX7_town_176, qX7_town_179, qX7_town_180, qX7_town_181, qX7_town_182, qX7_town_185, qX7_town_188, qX7_town_189, qX7_town_190, qX7_town_193, qX7_town_194, qX7_town_195, qX7_town_198, qX7_town_199, qX7_town_202, qX7_town_203, qX7_town_204, qX7_town_205, qX7_town_206, qX7_town_209, qX7_town_210, qX7_town_211, qX7_town_212, qX7_town_213, qX7_town_216, rz, if_false]
end LP
