/-! THE TOWN'S READS, AND THE ROUTE: weigh, sort, walk -/
theorem mm_ext {σ τ : mm_M} (h1 : ∀ i, σ.1 i = τ.1 i) (h2 : σ.2 = τ.2) : σ = τ := Prod.ext (funext h1) h2
theorem s_at_4 {d : Nat} {P : mm_O} {σ : mm_M} (i : Int32) : mm_run shC (d + 1) 77 [.ref 4, .int i] σ P = P (some (.int (atF (σ.1 4) 7 i))) σ := s_at rfl (by decide) i
theorem s_put_4 {d : Nat} {P : mm_O} {σ : mm_M} (i x : Int32) : mm_run shC (d + 1) 78 [.ref 4, .int i, .int x] σ P = P none (mm_set σ 4 (putF (σ.1 4) 7 i x)) := s_put rfl (by decide) i x
theorem s_at_5 {d : Nat} {P : mm_O} {σ : mm_M} (i : Int32) : mm_run shC (d + 1) 77 [.ref 5, .int i] σ P = P (some (.int (atF (σ.1 5) 7 i))) σ := s_at rfl (by decide) i
theorem s_put_5 {d : Nat} {P : mm_O} {σ : mm_M} (i x : Int32) : mm_run shC (d + 1) 78 [.ref 5, .int i, .int x] σ P = P none (mm_set σ 5 (putF (σ.1 5) 7 i x)) := s_put rfl (by decide) i x
theorem s_at_6 {d : Nat} {P : mm_O} {σ : mm_M} (i : Int32) : mm_run shC (d + 1) 77 [.ref 6, .int i] σ P = P (some (.int (atF (σ.1 6) 7 i))) σ := s_at rfl (by decide) i
theorem s_put_6 {d : Nat} {P : mm_O} {σ : mm_M} (i x : Int32) : mm_run shC (d + 1) 78 [.ref 6, .int i, .int x] σ P = P none (mm_set σ 6 (putF (σ.1 6) 7 i x)) := s_put rfl (by decide) i x
theorem s_at_7 {d : Nat} {P : mm_O} {σ : mm_M} (i : Int32) : mm_run shC (d + 1) 77 [.ref 7, .int i] σ P = P (some (.int (atF (σ.1 7) 7 i))) σ := s_at rfl (by decide) i
theorem s_put_7 {d : Nat} {P : mm_O} {σ : mm_M} (i x : Int32) : mm_run shC (d + 1) 78 [.ref 7, .int i, .int x] σ P = P none (mm_set σ 7 (putF (σ.1 7) 7 i x)) := s_put rfl (by decide) i x
theorem s_at_8 {d : Nat} {P : mm_O} {σ : mm_M} (i : Int32) : mm_run shC (d + 1) 77 [.ref 8, .int i] σ P = P (some (.int (atF (σ.1 8) 7 i))) σ := s_at rfl (by decide) i
theorem s_put_8 {d : Nat} {P : mm_O} {σ : mm_M} (i x : Int32) : mm_run shC (d + 1) 78 [.ref 8, .int i, .int x] σ P = P none (mm_set σ 8 (putF (σ.1 8) 7 i x)) := s_put rfl (by decide) i x
theorem s_at_9 {d : Nat} {P : mm_O} {σ : mm_M} (i : Int32) : mm_run shC (d + 1) 77 [.ref 9, .int i] σ P = P (some (.int (atF (σ.1 9) 7 i))) σ := s_at rfl (by decide) i
theorem s_put_9 {d : Nat} {P : mm_O} {σ : mm_M} (i x : Int32) : mm_run shC (d + 1) 78 [.ref 9, .int i, .int x] σ P = P none (mm_set σ 9 (putF (σ.1 9) 7 i x)) := s_put rfl (by decide) i x
theorem s_at_10 {d : Nat} {P : mm_O} {σ : mm_M} (i : Int32) : mm_run shC (d + 1) 77 [.ref 10, .int i] σ P = P (some (.int (atF (σ.1 10) 7 i))) σ := s_at rfl (by decide) i
theorem s_put_10 {d : Nat} {P : mm_O} {σ : mm_M} (i x : Int32) : mm_run shC (d + 1) 78 [.ref 10, .int i, .int x] σ P = P none (mm_set σ 10 (putF (σ.1 10) 7 i x)) := s_put rfl (by decide) i x
theorem s_at_12 {d : Nat} {P : mm_O} {σ : mm_M} (i : Int32) : mm_run shC (d + 1) 77 [.ref 12, .int i] σ P = P (some (.int (atF (σ.1 12) 7 i))) σ := s_at rfl (by decide) i
theorem s_put_12 {d : Nat} {P : mm_O} {σ : mm_M} (i x : Int32) : mm_run shC (d + 1) 78 [.ref 12, .int i, .int x] σ P = P none (mm_set σ 12 (putF (σ.1 12) 7 i x)) := s_put rfl (by decide) i x
theorem s_at_13 {d : Nat} {P : mm_O} {σ : mm_M} (i : Int32) : mm_run shC (d + 1) 77 [.ref 13, .int i] σ P = P (some (.int (atF (σ.1 13) 7 i))) σ := s_at rfl (by decide) i
theorem s_put_13 {d : Nat} {P : mm_O} {σ : mm_M} (i x : Int32) : mm_run shC (d + 1) 78 [.ref 13, .int i, .int x] σ P = P none (mm_set σ 13 (putF (σ.1 13) 7 i x)) := s_put rfl (by decide) i x
theorem s_at_14 {d : Nat} {P : mm_O} {σ : mm_M} (i : Int32) : mm_run shC (d + 1) 77 [.ref 14, .int i] σ P = P (some (.int (atF (σ.1 14) 7 i))) σ := s_at rfl (by decide) i
theorem s_put_14 {d : Nat} {P : mm_O} {σ : mm_M} (i x : Int32) : mm_run shC (d + 1) 78 [.ref 14, .int i, .int x] σ P = P none (mm_set σ 14 (putF (σ.1 14) 7 i x)) := s_put rfl (by decide) i x
theorem s_at_15 {d : Nat} {P : mm_O} {σ : mm_M} (i : Int32) : mm_run shC (d + 1) 77 [.ref 15, .int i] σ P = P (some (.int (atF (σ.1 15) 7 i))) σ := s_at rfl (by decide) i
theorem s_put_15 {d : Nat} {P : mm_O} {σ : mm_M} (i x : Int32) : mm_run shC (d + 1) 78 [.ref 15, .int i, .int x] σ P = P none (mm_set σ 15 (putF (σ.1 15) 7 i x)) := s_put rfl (by decide) i x
theorem s_at_16 {d : Nat} {P : mm_O} {σ : mm_M} (i : Int32) : mm_run shC (d + 1) 77 [.ref 16, .int i] σ P = P (some (.int (atF (σ.1 16) 7 i))) σ := s_at rfl (by decide) i
theorem s_put_16 {d : Nat} {P : mm_O} {σ : mm_M} (i x : Int32) : mm_run shC (d + 1) 78 [.ref 16, .int i, .int x] σ P = P none (mm_set σ 16 (putF (σ.1 16) 7 i x)) := s_put rfl (by decide) i x
theorem s_at_17 {d : Nat} {P : mm_O} {σ : mm_M} (i : Int32) : mm_run shC (d + 1) 77 [.ref 17, .int i] σ P = P (some (.int (atF (σ.1 17) 7 i))) σ := s_at rfl (by decide) i
theorem s_put_17 {d : Nat} {P : mm_O} {σ : mm_M} (i x : Int32) : mm_run shC (d + 1) 78 [.ref 17, .int i, .int x] σ P = P none (mm_set σ 17 (putF (σ.1 17) 7 i x)) := s_put rfl (by decide) i x
theorem s_at_18 {d : Nat} {P : mm_O} {σ : mm_M} (i : Int32) : mm_run shC (d + 1) 77 [.ref 18, .int i] σ P = P (some (.int (atF (σ.1 18) 7 i))) σ := s_at rfl (by decide) i
theorem s_put_18 {d : Nat} {P : mm_O} {σ : mm_M} (i x : Int32) : mm_run shC (d + 1) 78 [.ref 18, .int i, .int x] σ P = P none (mm_set σ 18 (putF (σ.1 18) 7 i x)) := s_put rfl (by decide) i x
theorem s_at_20 {d : Nat} {P : mm_O} {σ : mm_M} (i : Int32) : mm_run shC (d + 1) 77 [.ref 20, .int i] σ P = P (some (.int (atF (σ.1 20) 7 i))) σ := s_at rfl (by decide) i
theorem s_put_20 {d : Nat} {P : mm_O} {σ : mm_M} (i x : Int32) : mm_run shC (d + 1) 78 [.ref 20, .int i, .int x] σ P = P none (mm_set σ 20 (putF (σ.1 20) 7 i x)) := s_put rfl (by decide) i x
theorem s_at_21 {d : Nat} {P : mm_O} {σ : mm_M} (i : Int32) : mm_run shC (d + 1) 77 [.ref 21, .int i] σ P = P (some (.int (atF (σ.1 21) 7 i))) σ := s_at rfl (by decide) i
theorem s_put_21 {d : Nat} {P : mm_O} {σ : mm_M} (i x : Int32) : mm_run shC (d + 1) 78 [.ref 21, .int i, .int x] σ P = P none (mm_set σ 21 (putF (σ.1 21) 7 i x)) := s_put rfl (by decide) i x
theorem s_at_22 {d : Nat} {P : mm_O} {σ : mm_M} (i : Int32) : mm_run shC (d + 1) 77 [.ref 22, .int i] σ P = P (some (.int (atF (σ.1 22) 7 i))) σ := s_at rfl (by decide) i
theorem s_put_22 {d : Nat} {P : mm_O} {σ : mm_M} (i x : Int32) : mm_run shC (d + 1) 78 [.ref 22, .int i, .int x] σ P = P none (mm_set σ 22 (putF (σ.1 22) 7 i x)) := s_put rfl (by decide) i x
theorem s_at_24 {d : Nat} {P : mm_O} {σ : mm_M} (i : Int32) : mm_run shC (d + 1) 77 [.ref 24, .int i] σ P = P (some (.int (atF (σ.1 24) 7 i))) σ := s_at rfl (by decide) i
theorem s_put_24 {d : Nat} {P : mm_O} {σ : mm_M} (i x : Int32) : mm_run shC (d + 1) 78 [.ref 24, .int i, .int x] σ P = P none (mm_set σ 24 (putF (σ.1 24) 7 i x)) := s_put rfl (by decide) i x
theorem s_at_25 {d : Nat} {P : mm_O} {σ : mm_M} (i : Int32) : mm_run shC (d + 1) 77 [.ref 25, .int i] σ P = P (some (.int (atF (σ.1 25) 7 i))) σ := s_at rfl (by decide) i
theorem s_put_25 {d : Nat} {P : mm_O} {σ : mm_M} (i x : Int32) : mm_run shC (d + 1) 78 [.ref 25, .int i, .int x] σ P = P none (mm_set σ 25 (putF (σ.1 25) 7 i x)) := s_put rfl (by decide) i x
theorem s_at_27 {d : Nat} {P : mm_O} {σ : mm_M} (i : Int32) : mm_run shC (d + 1) 77 [.ref 27, .int i] σ P = P (some (.int (atF (σ.1 27) 7 i))) σ := s_at rfl (by decide) i
theorem s_put_27 {d : Nat} {P : mm_O} {σ : mm_M} (i x : Int32) : mm_run shC (d + 1) 78 [.ref 27, .int i, .int x] σ P = P none (mm_set σ 27 (putF (σ.1 27) 7 i x)) := s_put rfl (by decide) i x
theorem s_at_29 {d : Nat} {P : mm_O} {σ : mm_M} (i : Int32) : mm_run shC (d + 1) 77 [.ref 29, .int i] σ P = P (some (.int (atF (σ.1 29) 7 i))) σ := s_at rfl (by decide) i
theorem s_put_29 {d : Nat} {P : mm_O} {σ : mm_M} (i x : Int32) : mm_run shC (d + 1) 78 [.ref 29, .int i, .int x] σ P = P none (mm_set σ 29 (putF (σ.1 29) 7 i x)) := s_put rfl (by decide) i x
theorem s_at_30 {d : Nat} {P : mm_O} {σ : mm_M} (i : Int32) : mm_run shC (d + 1) 77 [.ref 30, .int i] σ P = P (some (.int (atF (σ.1 30) 7 i))) σ := s_at rfl (by decide) i
theorem s_put_30 {d : Nat} {P : mm_O} {σ : mm_M} (i x : Int32) : mm_run shC (d + 1) 78 [.ref 30, .int i, .int x] σ P = P none (mm_set σ 30 (putF (σ.1 30) 7 i x)) := s_put rfl (by decide) i x
theorem s_at_31 {d : Nat} {P : mm_O} {σ : mm_M} (i : Int32) : mm_run shC (d + 1) 77 [.ref 31, .int i] σ P = P (some (.int (atF (σ.1 31) 7 i))) σ := s_at rfl (by decide) i
theorem s_put_31 {d : Nat} {P : mm_O} {σ : mm_M} (i x : Int32) : mm_run shC (d + 1) 78 [.ref 31, .int i, .int x] σ P = P none (mm_set σ 31 (putF (σ.1 31) 7 i x)) := s_put rfl (by decide) i x
theorem s_at_34 {d : Nat} {P : mm_O} {σ : mm_M} (i : Int32) : mm_run shC (d + 1) 77 [.ref 34, .int i] σ P = P (some (.int (atF (σ.1 34) 7 i))) σ := s_at rfl (by decide) i
theorem s_put_34 {d : Nat} {P : mm_O} {σ : mm_M} (i x : Int32) : mm_run shC (d + 1) 78 [.ref 34, .int i, .int x] σ P = P none (mm_set σ 34 (putF (σ.1 34) 7 i x)) := s_put rfl (by decide) i x
theorem s_at_35 {d : Nat} {P : mm_O} {σ : mm_M} (i : Int32) : mm_run shC (d + 1) 77 [.ref 35, .int i] σ P = P (some (.int (atF (σ.1 35) 7 i))) σ := s_at rfl (by decide) i
theorem s_put_35 {d : Nat} {P : mm_O} {σ : mm_M} (i x : Int32) : mm_run shC (d + 1) 78 [.ref 35, .int i, .int x] σ P = P none (mm_set σ 35 (putF (σ.1 35) 7 i x)) := s_put rfl (by decide) i x
theorem s_at_36 {d : Nat} {P : mm_O} {σ : mm_M} (i : Int32) : mm_run shC (d + 1) 77 [.ref 36, .int i] σ P = P (some (.int (atF (σ.1 36) 7 i))) σ := s_at rfl (by decide) i
theorem s_put_36 {d : Nat} {P : mm_O} {σ : mm_M} (i x : Int32) : mm_run shC (d + 1) 78 [.ref 36, .int i, .int x] σ P = P none (mm_set σ 36 (putF (σ.1 36) 7 i x)) := s_put rfl (by decide) i x
theorem s_at_38 {d : Nat} {P : mm_O} {σ : mm_M} (i : Int32) : mm_run shC (d + 1) 77 [.ref 38, .int i] σ P = P (some (.int (atF (σ.1 38) 7 i))) σ := s_at rfl (by decide) i
theorem s_put_38 {d : Nat} {P : mm_O} {σ : mm_M} (i x : Int32) : mm_run shC (d + 1) 78 [.ref 38, .int i, .int x] σ P = P none (mm_set σ 38 (putF (σ.1 38) 7 i x)) := s_put rfl (by decide) i x
theorem s_at_39 {d : Nat} {P : mm_O} {σ : mm_M} (i : Int32) : mm_run shC (d + 1) 77 [.ref 39, .int i] σ P = P (some (.int (atF (σ.1 39) 7 i))) σ := s_at rfl (by decide) i
theorem s_put_39 {d : Nat} {P : mm_O} {σ : mm_M} (i x : Int32) : mm_run shC (d + 1) 78 [.ref 39, .int i, .int x] σ P = P none (mm_set σ 39 (putF (σ.1 39) 7 i x)) := s_put rfl (by decide) i x
theorem s_at_40 {d : Nat} {P : mm_O} {σ : mm_M} (i : Int32) : mm_run shC (d + 1) 77 [.ref 40, .int i] σ P = P (some (.int (atF (σ.1 40) 7 i))) σ := s_at rfl (by decide) i
theorem s_put_40 {d : Nat} {P : mm_O} {σ : mm_M} (i x : Int32) : mm_run shC (d + 1) 78 [.ref 40, .int i, .int x] σ P = P none (mm_set σ 40 (putF (σ.1 40) 7 i x)) := s_put rfl (by decide) i x
theorem s_at_41 {d : Nat} {P : mm_O} {σ : mm_M} (i : Int32) : mm_run shC (d + 1) 77 [.ref 41, .int i] σ P = P (some (.int (atF (σ.1 41) 7 i))) σ := s_at rfl (by decide) i
theorem s_put_41 {d : Nat} {P : mm_O} {σ : mm_M} (i x : Int32) : mm_run shC (d + 1) 78 [.ref 41, .int i, .int x] σ P = P none (mm_set σ 41 (putF (σ.1 41) 7 i x)) := s_put rfl (by decide) i x
theorem s_at_42 {d : Nat} {P : mm_O} {σ : mm_M} (i : Int32) : mm_run shC (d + 1) 77 [.ref 42, .int i] σ P = P (some (.int (atF (σ.1 42) 7 i))) σ := s_at rfl (by decide) i
theorem s_put_42 {d : Nat} {P : mm_O} {σ : mm_M} (i x : Int32) : mm_run shC (d + 1) 78 [.ref 42, .int i, .int x] σ P = P none (mm_set σ 42 (putF (σ.1 42) 7 i x)) := s_put rfl (by decide) i x
theorem s_at_32 {d : Nat} {P : mm_O} {σ : mm_M} (i : Int32) : mm_run shC (d + 1) 77 [.ref 32, .int i] σ P = P (some (.int (atF (σ.1 32) 30 i))) σ := s_at rfl (by decide) i
theorem s_put_32 {d : Nat} {P : mm_O} {σ : mm_M} (i x : Int32) : mm_run shC (d + 1) 78 [.ref 32, .int i, .int x] σ P = P none (mm_set σ 32 (putF (σ.1 32) 30 i x)) := s_put rfl (by decide) i x
theorem s_at_43 {d : Nat} {P : mm_O} {σ : mm_M} (i : Int32) : mm_run shC (d + 1) 77 [.ref 43, .int i] σ P = P (some (.int (atF (σ.1 43) 30 i))) σ := s_at rfl (by decide) i
theorem s_put_43 {d : Nat} {P : mm_O} {σ : mm_M} (i x : Int32) : mm_run shC (d + 1) 78 [.ref 43, .int i, .int x] σ P = P none (mm_set σ 43 (putF (σ.1 43) 30 i x)) := s_put rfl (by decide) i x
theorem s_at_44 {d : Nat} {P : mm_O} {σ : mm_M} (i : Int32) : mm_run shC (d + 1) 77 [.ref 44, .int i] σ P = P (some (.int (atF (σ.1 44) 30 i))) σ := s_at rfl (by decide) i
theorem s_put_44 {d : Nat} {P : mm_O} {σ : mm_M} (i x : Int32) : mm_run shC (d + 1) 78 [.ref 44, .int i, .int x] σ P = P none (mm_set σ 44 (putF (σ.1 44) 30 i x)) := s_put rfl (by decide) i x
/-- 1 where 0 ≤ i < n -/
def hasF (n i : Int32) : Int32 := if i < 0 then 0 else if n ≤ i then 0 else 1
theorem s_hasPlace {d : Nat} {P : mm_O} {σ : mm_M} (i : Int32) : mm_run shC (d + 1) 38 [.ref 11, .int i] σ P = P (some (.int (hasF (σ.1 11 7) i))) σ := by
  rw [in_X5_hasPlace]
  unfold hasF
  by_cases h0 : i < 0 <;> by_cases h1 : σ.1 11 7 ≤ i <;> simp [qX5_hasPlace_0, qX5_hasPlace_1, qX5_hasPlace_4, qX5_hasPlace_5, qX5_hasPlace_6a, qX5_hasPlace_6b, qX5_hasPlace_9, qX5_hasPlace_12, qX5_hasPlace_13, qX5_hasPlace_16, qX5_hasPlace_17, h0, h1]
theorem s_hasLetter {d : Nat} {P : mm_O} {σ : mm_M} (i : Int32) : mm_run shC (d + 1) 39 [.ref 11, .int i] σ P = P (some (.int (hasF (σ.1 11 8) i))) σ := by
  rw [in_X5_hasLetter]
  unfold hasF
  by_cases h0 : i < 0 <;> by_cases h1 : σ.1 11 8 ≤ i <;> simp [qX5_hasLetter_0, qX5_hasLetter_1, qX5_hasLetter_4, qX5_hasLetter_5, qX5_hasLetter_6a, qX5_hasLetter_6b, qX5_hasLetter_9, qX5_hasLetter_12, qX5_hasLetter_13, qX5_hasLetter_16, qX5_hasLetter_17, h0, h1]
theorem hasF_1 {n : Nat} {i : Int32} (hn : n < 2 ^ 31) (h : hasF (nI n) i ≠ 0) : ∃ k, k < n ∧ i = nI k := by
  unfold hasF at h
  by_cases h0 : i < 0
  · simp [h0] at h
  · by_cases h1 : nI n ≤ i
    · simp [h0, h1] at h
    · obtain ⟨k, hk, rfl⟩ := nI_of h0
      refine ⟨k, ?_, rfl⟩
      rcases Nat.lt_or_ge k n with h2 | h2
      · exact h2
      · exact absurd (nI_le h2 hk) h1
theorem hasF_in {n k : Nat} (hk : k < n) (hn : n < 2 ^ 31) : hasF (nI n) (nI k) = 1 := by
  unfold hasF
  rw [if_neg (nI_pos (by omega)), if_neg (nI_ge hk hn)]
theorem s_apart {d : Nat} {P : mm_O} {σ : mm_M} (p q : Int32) : mm_run shC (d + 2) 40 [.ref 11, .int p, .int q] σ P = P (some (.int (mm_abs (atF (σ.1 12) 7 p - atF (σ.1 12) 7 q) + mm_abs (atF (σ.1 13) 7 p - atF (σ.1 13) 7 q)))) σ := by
  rw [in_X5_apart]
  simp [qX5_apart_0, qX5_apart_1a, qX5_apart_1b, qX5_apart_4, qX5_apart_5, qX5_apart_8, qX5_apart_9a, qX5_apart_9b, qX5_apart_12, qX5_apart_13, qX5_apart_16, qX5_apart_17, qX5_apart_20, qX5_apart_21a, qX5_apart_21b, qX5_apart_24, qX5_apart_25, qX5_apart_28, qX5_apart_29a, qX5_apart_29b, qX5_apart_32, qX5_apart_33, qX5_apart_36, qX5_apart_37, qX5_apart_40, qX5_apart_41, s_at_12, s_at_13]
theorem s_apart_n {d : Nat} {P : mm_O} {σ : mm_M} {p q : Nat} (hp : p < 7) (hq : q < 7) : mm_run shC (d + 2) 40 [.ref 11, .int (nI p), .int (nI q)] σ P = P (some (.int (dstF (σ.1 12) (σ.1 13) p q))) σ := by
  rw [s_apart, atF_in _ hp (by decide), atF_in _ hq (by decide), atF_in _ hp (by decide), atF_in _ hq (by decide)]
  rfl
theorem s_weigh_loop_19 {d : Nat} {P : mm_O} {S n : Nat} (hS : shC[S]? = some (.inl (.int, 7))) (hSh : S ≠ 20) (hn : n ≤ 7) : ∀ (j k : Nat) (σ : mm_M), j + k = n → σ.1 11 8 = nI n → mm_at shC (d + 1) 16 [] P 2 [.ref 19, .ref 11, .ref S, .int (nI k)] [] σ = P none (mm_set σ 20 (fun l => if k ≤ l ∧ l < n then σ.1 15 l + σ.1 S l else σ.1 20 l)) := by
  intro j
  induction j with
  | zero =>
    intro k σ hk hc
    have e : (fun l => if k ≤ l ∧ l < n then σ.1 15 l + σ.1 S l else σ.1 20 l) = σ.1 20 := by
      funext l
      rw [if_neg (by omega)]
    rw [e, mm_set_self]
    have h1 : nI n ≤ nI k := nI_le (by omega) (by omega)
    simp [qX2_weigh_0, qX2_weigh_1, qX2_weigh_2, qX2_weigh_3, qX2_weigh_4a, qX2_weigh_4b, qX2_weigh_7, qX2_weigh_10, qX2_weigh_11a, qX2_weigh_11b, qX2_weigh_14, qX2_weigh_15, qX2_weigh_16a, qX2_weigh_16b, qX2_weigh_19, qX2_weigh_20, qX2_weigh_23, qX2_weigh_24, qX2_weigh_25, qX2_weigh_28, qX2_weigh_29, qX2_weigh_32, qX2_weigh_35, qX2_weigh_38, hc, h1]
  | succ j ih =>
    intro k σ hk hc
    have h1 : ¬ nI n ≤ nI k := nI_ge (by omega) (by omega)
    rw [qX2_weigh_2]
    simp only [qX2_weigh_0, qX2_weigh_1, qX2_weigh_3, qX2_weigh_4a, qX2_weigh_4b, qX2_weigh_7, qX2_weigh_10, qX2_weigh_11a, qX2_weigh_11b, qX2_weigh_14, qX2_weigh_15, qX2_weigh_16a, qX2_weigh_16b, qX2_weigh_19, qX2_weigh_20, qX2_weigh_23, qX2_weigh_24, qX2_weigh_25, qX2_weigh_28, qX2_weigh_29, qX2_weigh_32, qX2_weigh_35, qX2_weigh_38, hc, h1, s_at_15, s_at hS (show 7 < 2 ^ 31 by decide), s_put_20, if_false, Option.toList, List.cons_append, List.nil_append]
    rw [atF_in _ (show k < 7 by omega) (by decide), atF_in _ (show k < 7 by omega) (by decide), putF_in _ _ (show k < 7 by omega) (by decide), show nI k + 1 = nI (k + 1) from nI_1 k, ih (k + 1) _ (by omega) (by simp [mm_set_1, hc]), mm_set_set]
    congr 2
    funext l
    rw [mm_set_ne σ _ hSh, mm_set_ne σ _ (show 15 ≠ 20 by decide), mm_set_same, upd_1]
    by_cases hl : l = k
    · subst hl
      simp [show l < n by omega]
    · by_cases h4 : k ≤ l ∧ l < n
      · rw [if_pos (by omega), if_pos h4]
      · rw [if_neg (by omega), if_neg hl, if_neg h4]
theorem s_weigh_19 {d : Nat} {P : mm_O} {σ : mm_M} {S n : Nat} (hS : shC[S]? = some (.inl (.int, 7))) (hSh : S ≠ 20) (hn : n ≤ 7) (hc : σ.1 11 8 = nI n) : mm_run shC (d + 2) 16 [.ref 19, .ref 11, .ref S] σ P = P none (mm_set σ 20 (fun l => if l < n then σ.1 15 l + σ.1 S l else σ.1 20 l)) := by
  rw [in_X2_weigh]
  simp only [qX2_weigh_0, qX2_weigh_1, qX2_weigh_3, qX2_weigh_4a, qX2_weigh_4b, qX2_weigh_7, qX2_weigh_10, qX2_weigh_11a, qX2_weigh_11b, qX2_weigh_14, qX2_weigh_15, qX2_weigh_16a, qX2_weigh_16b, qX2_weigh_19, qX2_weigh_20, qX2_weigh_23, qX2_weigh_24, qX2_weigh_25, qX2_weigh_28, qX2_weigh_29, qX2_weigh_32, qX2_weigh_35, qX2_weigh_38]
  rw [show (0 : Int32) = nI 0 from rfl, s_weigh_loop_19 hS hSh hn n 0 σ (by omega) hc]
  congr 2
  funext l
  simp
theorem s_weigh_loop_28 {d : Nat} {P : mm_O} {S n : Nat} (hS : shC[S]? = some (.inl (.int, 7))) (hSh : S ≠ 29) (hn : n ≤ 7) : ∀ (j k : Nat) (σ : mm_M), j + k = n → σ.1 11 8 = nI n → mm_at shC (d + 1) 16 [] P 2 [.ref 28, .ref 11, .ref S, .int (nI k)] [] σ = P none (mm_set σ 29 (fun l => if k ≤ l ∧ l < n then σ.1 15 l + σ.1 S l else σ.1 29 l)) := by
  intro j
  induction j with
  | zero =>
    intro k σ hk hc
    have e : (fun l => if k ≤ l ∧ l < n then σ.1 15 l + σ.1 S l else σ.1 29 l) = σ.1 29 := by
      funext l
      rw [if_neg (by omega)]
    rw [e, mm_set_self]
    have h1 : nI n ≤ nI k := nI_le (by omega) (by omega)
    simp [qX2_weigh_0, qX2_weigh_1, qX2_weigh_2, qX2_weigh_3, qX2_weigh_4a, qX2_weigh_4b, qX2_weigh_7, qX2_weigh_10, qX2_weigh_11a, qX2_weigh_11b, qX2_weigh_14, qX2_weigh_15, qX2_weigh_16a, qX2_weigh_16b, qX2_weigh_19, qX2_weigh_20, qX2_weigh_23, qX2_weigh_24, qX2_weigh_25, qX2_weigh_28, qX2_weigh_29, qX2_weigh_32, qX2_weigh_35, qX2_weigh_38, hc, h1]
  | succ j ih =>
    intro k σ hk hc
    have h1 : ¬ nI n ≤ nI k := nI_ge (by omega) (by omega)
    rw [qX2_weigh_2]
    simp only [qX2_weigh_0, qX2_weigh_1, qX2_weigh_3, qX2_weigh_4a, qX2_weigh_4b, qX2_weigh_7, qX2_weigh_10, qX2_weigh_11a, qX2_weigh_11b, qX2_weigh_14, qX2_weigh_15, qX2_weigh_16a, qX2_weigh_16b, qX2_weigh_19, qX2_weigh_20, qX2_weigh_23, qX2_weigh_24, qX2_weigh_25, qX2_weigh_28, qX2_weigh_29, qX2_weigh_32, qX2_weigh_35, qX2_weigh_38, hc, h1, s_at_15, s_at hS (show 7 < 2 ^ 31 by decide), s_put_29, if_false, Option.toList, List.cons_append, List.nil_append]
    rw [atF_in _ (show k < 7 by omega) (by decide), atF_in _ (show k < 7 by omega) (by decide), putF_in _ _ (show k < 7 by omega) (by decide), show nI k + 1 = nI (k + 1) from nI_1 k, ih (k + 1) _ (by omega) (by simp [mm_set_1, hc]), mm_set_set]
    congr 2
    funext l
    rw [mm_set_ne σ _ hSh, mm_set_ne σ _ (show 15 ≠ 29 by decide), mm_set_same, upd_1]
    by_cases hl : l = k
    · subst hl
      simp [show l < n by omega]
    · by_cases h4 : k ≤ l ∧ l < n
      · rw [if_pos (by omega), if_pos h4]
      · rw [if_neg (by omega), if_neg hl, if_neg h4]
theorem s_weigh_28 {d : Nat} {P : mm_O} {σ : mm_M} {S n : Nat} (hS : shC[S]? = some (.inl (.int, 7))) (hSh : S ≠ 29) (hn : n ≤ 7) (hc : σ.1 11 8 = nI n) : mm_run shC (d + 2) 16 [.ref 28, .ref 11, .ref S] σ P = P none (mm_set σ 29 (fun l => if l < n then σ.1 15 l + σ.1 S l else σ.1 29 l)) := by
  rw [in_X2_weigh]
  simp only [qX2_weigh_0, qX2_weigh_1, qX2_weigh_3, qX2_weigh_4a, qX2_weigh_4b, qX2_weigh_7, qX2_weigh_10, qX2_weigh_11a, qX2_weigh_11b, qX2_weigh_14, qX2_weigh_15, qX2_weigh_16a, qX2_weigh_16b, qX2_weigh_19, qX2_weigh_20, qX2_weigh_23, qX2_weigh_24, qX2_weigh_25, qX2_weigh_28, qX2_weigh_29, qX2_weigh_32, qX2_weigh_35, qX2_weigh_38]
  rw [show (0 : Int32) = nI 0 from rfl, s_weigh_loop_28 hS hSh hn n 0 σ (by omega) hc]
  congr 2
  funext l
  simp
