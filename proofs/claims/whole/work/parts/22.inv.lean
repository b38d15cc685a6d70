/-! WHAT HOLDS BETWEEN THE TWO MEMORIES, call by call -/
def rg (x : Int32) (a b : Nat) : Prop := ∃ k, a ≤ k ∧ k ≤ b ∧ x = nI k
/-- places, letters, price, law, seed: n letters, np places -/
def TwR (σ μ : mm_M) (n np : Nat) : Prop :=
  (σ.1 11 7 = nI np ∧ μ.1 0 0 = nI np ∧ np ≤ 7) ∧ (σ.1 11 8 = nI n ∧ μ.1 0 3 = nI n ∧ n ≤ 7) ∧
  (∀ p, p < np → σ.1 12 p = μ.1 1 p ∧ σ.1 13 p = μ.1 2 p ∧ rg (σ.1 12 p) 0 99 ∧ rg (σ.1 13 p) 0 99) ∧
  (∀ l, l < n → (σ.1 14 l = μ.1 3 l ∧ σ.1 15 l = μ.1 4 l ∧ σ.1 16 l = μ.1 5 l ∧ σ.1 17 l = μ.1 6 l ∧ σ.1 18 l = μ.1 7 l) ∧ (∃ g, g < np ∧ σ.1 14 l = nI g) ∧ rg (σ.1 15 l) 1 99 ∧ rg (σ.1 16 l) 0 999 ∧ rg (σ.1 17 l) 0 99 ∧ rg (σ.1 18 l) 0 9) ∧
  (σ.1 11 9 = μ.1 0 9 ∧ rg (σ.1 11 9) 0 99) ∧ (σ.1 11 10 = μ.1 0 10 ∧ rg (σ.1 11 10) 0 2) ∧ (σ.1 11 11 = μ.1 0 11 ∧ ¬ σ.1 11 11 < 0)
def TxR (σ μ : mm_M) : Prop := ∃ T, T ≤ 400 ∧ σ.1 1 2 = nI T ∧ μ.1 0 13 = nI T ∧ ∀ k, k < T → ∃ b, b < 256 ∧ μ.1 8 k = nI b ∧ σ.1 2 k = (nI b).toInt8.toInt32
def CmR (σ μ : mm_M) (n : Nat) : Prop := ∃ (C : Nat) (cr : Nat → Nat), C ≤ n ∧ σ.1 0 11 = nI C ∧ μ.1 0 36 = nI C ∧ (∀ k, k < C → σ.1 42 k = nI (cr k) ∧ μ.1 20 k = nI (cr k) ∧ cr k < n) ∧ ∀ i j, i < C → j < C → cr i = cr j → i = j
def BkR (σ μ : mm_M) (n : Nat) : Prop := ∃ B, B ≤ 30 ∧ σ.1 0 12 = nI B ∧ μ.1 0 38 = nI B ∧ ∀ k, k < B → (∃ l, l < n ∧ σ.1 43 k = nI l ∧ μ.1 21 k = nI l) ∧ σ.1 44 k = μ.1 22 k
/-- image i: the class's at the cells b on, the reference's at 30 i on -/
def ImR (σ μ : mm_M) (n np b i : Nat) : Prop := (σ.1 b 6 = 0 ∧ μ.1 24 i = 0) ∨ (σ.1 b 6 = 1 ∧ μ.1 24 i = 1 ∧
  (∀ l, l < n → (σ.1 (b + 1) l = μ.1 23 (30 * i + 7 + l) ∧ σ.1 (b + 2) l = μ.1 23 (30 * i + l) ∧ σ.1 (b + 3) l = μ.1 23 (30 * i + 14 + l)) ∧ (∃ g, g < np ∧ σ.1 (b + 1) l = nI g) ∧ rg (σ.1 (b + 2) l) 1 99 ∧ rg (σ.1 (b + 3) l) 0 9) ∧
  (σ.1 b 3 = μ.1 23 (30 * i + 22) ∧ rg (σ.1 b 3) 0 99) ∧ (σ.1 b 4 = μ.1 23 (30 * i + 21) ∧ rg (σ.1 b 4) 0 2) ∧ (σ.1 b 5 = μ.1 23 (30 * i + 23) ∧ ¬ σ.1 b 5 < 0))
def Inv (σ μ : mm_M) : Prop := ∃ n np, TwR σ μ n np ∧ TxR σ μ ∧ σ.1 1 3 = μ.1 0 14 ∧ CmR σ μ n ∧ BkR σ μ n ∧ ImR σ μ n np 33 0 ∧ ImR σ μ n np 37 1
/-- the class's memory but for what every call makes anew -/
def AgC (σ τ : mm_M) : Prop := ∀ k, (k < 3 ∨ (11 ≤ k ∧ k < 19) ∨ (33 ≤ k ∧ k ≠ 41)) → τ.1 k = σ.1 k
def AgM (μ ν : mm_M) : Prop := (∀ k, (1 ≤ k ∧ k < 9) ∨ 20 ≤ k → ν.1 k = μ.1 k) ∧ ∀ j, j = 0 ∨ j = 3 ∨ j = 9 ∨ j = 10 ∨ j = 11 ∨ j = 13 ∨ j = 14 ∨ j = 36 ∨ j = 38 → ν.1 0 j = μ.1 0 j
theorem AgC.rf (σ : mm_M) : AgC σ σ := fun _ _ => rfl
theorem AgM.rf (μ : mm_M) : AgM μ μ := ⟨fun _ _ => rfl, fun _ _ => rfl⟩
theorem AgC.tr {σ τ υ : mm_M} (h : AgC σ τ) (k : AgC τ υ) : AgC σ υ := fun i hi => (k i hi).trans (h i hi)
theorem AgM.tr {σ τ υ : mm_M} (h : AgM σ τ) (k : AgM τ υ) : AgM σ υ := ⟨fun i hi => (k.1 i hi).trans (h.1 i hi), fun i hi => (k.2 i hi).trans (h.2 i hi)⟩
theorem Inv.ag {σ σ' μ μ' : mm_M} (h : Inv σ μ) (hc : AgC σ σ') (hm : AgM μ μ') : Inv σ' μ' := by
  obtain ⟨n, np, h1, h2, h3, h4, h5, h6, h7⟩ := h
  have c0 := hc 0 (by omega); have c1 := hc 1 (by omega); have c2 := hc 2 (by omega)
  have c11 := hc 11 (by omega); have c12 := hc 12 (by omega); have c13 := hc 13 (by omega); have c14 := hc 14 (by omega); have c15 := hc 15 (by omega); have c16 := hc 16 (by omega); have c17 := hc 17 (by omega); have c18 := hc 18 (by omega)
  have c33 := hc 33 (by omega); have c34 := hc 34 (by omega); have c35 := hc 35 (by omega); have c36 := hc 36 (by omega); have c37 := hc 37 (by omega); have c38 := hc 38 (by omega); have c39 := hc 39 (by omega); have c40 := hc 40 (by omega)
  have c42 := hc 42 (by omega); have c43 := hc 43 (by omega); have c44 := hc 44 (by omega)
  have m1 := hm.1 1 (by omega); have m2 := hm.1 2 (by omega); have m3 := hm.1 3 (by omega); have m4 := hm.1 4 (by omega); have m5 := hm.1 5 (by omega); have m6 := hm.1 6 (by omega); have m7 := hm.1 7 (by omega); have m8 := hm.1 8 (by omega)
  have m20 := hm.1 20 (by omega); have m21 := hm.1 21 (by omega); have m22 := hm.1 22 (by omega); have m23 := hm.1 23 (by omega); have m24 := hm.1 24 (by omega)
  have f0 := hm.2 0 (by omega); have f3 := hm.2 3 (by omega); have f9 := hm.2 9 (by omega); have f10 := hm.2 10 (by omega); have f11 := hm.2 11 (by omega); have f13 := hm.2 13 (by omega); have f14 := hm.2 14 (by omega); have f36 := hm.2 36 (by omega); have f38 := hm.2 38 (by omega)
  refine ⟨n, np, ?_, ?_, ?_, ?_, ?_, ?_, ?_⟩
  · unfold TwR; rw [c11, c12, c13, c14, c15, c16, c17, c18, m1, m2, m3, m4, m5, m6, m7, f0, f3, f9, f10, f11]; exact h1
  · unfold TxR; rw [c1, c2, m8, f13]; exact h2
  · rw [c1, f14]; exact h3
  · unfold CmR; rw [c0, c42, m20, f36]; exact h4
  · unfold BkR; rw [c0, c43, c44, m21, m22, f38]; exact h5
  · unfold ImR at h6 ⊢; simp only [c33, c34, c35, c36, m23, m24, Nat.reduceAdd] at h6 ⊢; exact h6
  · unfold ImR at h7 ⊢; simp only [c37, c38, c39, c40, m23, m24, Nat.reduceAdd] at h7 ⊢; exact h7
theorem layF_ag (σ : mm_M) (S n : Nat) : AgC σ (layF σ 19 20 21 22 S n) := fun k hk => layF_o (by omega) (by omega) (by omega) (by omega)
theorem layF_ag2 (σ : mm_M) (S n : Nat) : AgC σ (layF σ 28 29 30 31 S n) := fun k hk => layF_o (by omega) (by omega) (by omega) (by omega)
theorem wnF_ag (μ : mm_M) (n : Nat) : AgM μ (wnF μ n) := ⟨fun k hk => wnF_o (by omega) (by omega) (by omega), fun j _ => by rw [wnF_o (by decide) (by decide) (by decide)]⟩
theorem rg_in {x : Int32} {a b : Nat} (h : rg x a b) (hb : b < 2 ^ 31) : x = nI x.toNatClampNeg ∧ a ≤ x.toNatClampNeg ∧ x.toNatClampNeg ≤ b := by
  obtain ⟨k, h1, h2, rfl⟩ := h
  rw [nI_clamp (by omega)]
  exact ⟨rfl, h1, h2⟩
section TW
variable {σ μ : mm_M} {n np : Nat}
theorem TwR.gl (h : TwR σ μ n np) {l : Nat} (hl : l < n) : σ.1 14 l = nI (glF (σ.1 14) l) ∧ glF (σ.1 14) l < np ∧ glF (σ.1 14) l = glF (μ.1 3) l := by
  obtain ⟨⟨-, -, hnp⟩, -, -, h4, -⟩ := h
  obtain ⟨⟨e, -⟩, ⟨g, hg, eg⟩, -⟩ := h4 l hl
  have e2 : glF (σ.1 14) l = g := by unfold glF; rw [eg, nI_clamp (by omega)]
  have e3 : glF (μ.1 3) l = g := by unfold glF; rw [← e, eg, nI_clamp (by omega)]
  rw [e2, e3]
  exact ⟨eg, hg, rfl⟩
theorem TwR.okT (h : TwR σ μ n np) : okT σ n := ⟨h.2.1.1, h.2.1.2.2, fun l hl => ⟨(h.gl hl).1, by have := (h.gl hl).2.1; have := h.1.2.2; omega⟩⟩
theorem TwR.okM (h : TwR σ μ n np) : okM μ n := ⟨h.2.1.2.1, h.2.1.2.2, fun l hl => ⟨by rw [← (h.gl hl).2.2, ← (h.2.2.2.1 l hl).1.1]; exact (h.gl hl).1, by have := (h.gl hl).2.1; have := (h.gl hl).2.2; have := h.1.2.2; omega⟩⟩
theorem TwR.law (h : TwR σ μ n np) : σ.1 11 10 = μ.1 0 10 := h.2.2.2.2.2.1.1
theorem TwR.hv (h : TwR σ μ n np) {l : Nat} (hl : l < n) : hvF σ 18 l = hvM μ l := by
  obtain ⟨⟨-, e2, -, -, e5⟩, -⟩ := h.2.2.2.1 l hl
  unfold hvF hvM
  rw [e2, e5]
theorem TwR.od (h : TwR σ μ n np) (k : Nat) : odF σ 18 n k = odM μ n k := by
  unfold odF odM
  rw [h.law]
  exact ordF_congr (fun l hl => h.hv hl) k
end TW
theorem wlkF_congr {xs ys xs' ys' : Nat → Int32} {g g' od od' : Nat → Nat} {n np : Nat} (h0 : 0 < n → 0 < np) (hx : ∀ p, p < np → xs p = xs' p ∧ ys p = ys' p) (hg : ∀ l, l < n → g l < np ∧ g l = g' l) (ho : ∀ k, k < n → od k < n ∧ od k = od' k) : ∀ k, k ≤ n → wlkF xs ys g od k = wlkF xs' ys' g' od' k
  | 0, _ => rfl
  | k + 1, hk => by
    have e := wlkF_congr h0 hx hg ho k (by omega)
    obtain ⟨o1, o2⟩ := ho k (by omega)
    obtain ⟨g1, g2⟩ := hg (od k) o1
    have hp : plcF g od k = plcF g' od' k ∧ plcF g od k < np := by
      cases k with
      | zero => exact ⟨rfl, h0 (by omega)⟩
      | succ k =>
        obtain ⟨o3, o4⟩ := ho k (by omega)
        obtain ⟨g3, g4⟩ := hg (od k) o3
        exact ⟨by show g (od k) = g' (od' k); rw [g4, o4], g3⟩
    unfold wlkF
    rw [e, ← hp.1, ← o2, ← g2]
    unfold dstF
    rw [(hx _ hp.2).1, (hx _ hp.2).2, (hx _ g1).1, (hx _ g1).2]
section TW2
variable {σ μ : mm_M} {n np : Nat}
theorem TwR.np0 (h : TwR σ μ n np) (hn : 0 < n) : 0 < np := by have := (h.gl hn).2.1; omega
theorem TwR.W (h : TwR σ μ n np) {k : Nat} (hk : k ≤ n) : WF σ 18 n k = WM μ n k :=
  wlkF_congr h.np0 (fun p hp => ⟨(h.2.2.1 p hp).1, (h.2.2.1 p hp).2.1⟩) (fun l hl => (h.gl hl).2) (fun k hk => ⟨odF_lt hk, h.od k⟩) k hk
theorem rkF_congr {od od' : Nat → Nat} (h : ∀ k, od k = od' k) : ∀ n l, rkF od n l = rkF od' n l
  | 0, _ => rfl
  | n + 1, l => by unfold rkF; rw [h n, rkF_congr h n l]
theorem TwR.rk (h : TwR σ μ n np) (l : Nat) : rkF (odF σ 18 n) n l = rkF (odM μ n) n l := rkF_congr (fun k => h.od k) n l
theorem TwR.come (h : TwR σ μ n np) {l : Nat} (hl : l < n) : comeF σ 18 n l = comeM μ n l := by
  unfold comeF comeM
  rw [← h.rk l, h.W (by have := (odF_rk (σ := σ) (S := 18) hl).1; omega)]
end TW2
theorem sumF_congr {f g : Nat → Int32} : ∀ {k : Nat}, (∀ i, i < k → f i = g i) → sumF f k = sumF g k
  | 0, _ => rfl
  | k + 1, h => by unfold sumF; rw [sumF_congr (fun i hi => h i (by omega)), h k (by omega)]
theorem setF_congr {f g : Nat → Bool} : ∀ {k : Nat}, (∀ i, i < k → f i = g i) → setF f k = setF g k
  | 0, _ => rfl
  | k + 1, h => by unfold setF; rw [setF_congr (fun i hi => h i (by omega)), h k (by omega)]
/-- what a call must do: one answer, and the memories as before -/
def Call (jc jm : Nat) (as : List Value) : Prop := ∀ σ μ, Inv σ μ → ∃ (r : Int32) (σ' μ' : mm_M), Inv σ' μ' ∧ (∀ (d : Nat) (P : mm_O), mm_run shC (d + 40) jc (.ref 0 :: as) σ P = P (some (.int r)) σ') ∧ ∀ (d : Nat) (P : mm_O), mm_run shM (d + 40) jm (.ref 0 :: as) μ P = P (some (.int r)) μ'
