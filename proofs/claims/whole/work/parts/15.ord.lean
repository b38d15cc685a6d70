/-! ORDER, as numbers: the pick among the letters left, its order, that each letter comes once; the walk. Rows b_ of kit/laws/BITS (pasted) -/
def bt (x : Int32) (i : Nat) : Bool := x.toBitVec.getLsbD i
theorem b_ext {x y : Int32} (h : ∀ i, i < 32 → bt x i = bt y i) : x = y := Int32.toBitVec_inj.mp (BitVec.eq_of_getLsbD_eq (fun i hi => h i hi))
theorem b_or (x y : Int32) (i : Nat) : bt (x ||| y) i = (bt x i || bt y i) := by unfold bt; rw [Int32.toBitVec_or, BitVec.getLsbD_or]
theorem b_and (x y : Int32) (i : Nat) : bt (x &&& y) i = (bt x i && bt y i) := by unfold bt; rw [Int32.toBitVec_and, BitVec.getLsbD_and]
theorem b_xor (x y : Int32) (i : Nat) : bt (x ^^^ y) i = (bt x i ^^ bt y i) := by unfold bt; rw [Int32.toBitVec_xor, BitVec.getLsbD_xor]
theorem b_m1 : ∀ i, i < 32 → bt (-1) i = true := by decide +kernel
theorem b_0 (i : Nat) : bt 0 i = false := BitVec.getLsbD_zero
theorem s_l : ∀ n, n < 32 → ((nI n &&& 31).toBitVec.smod 32).toNat = n := by decide +kernel
theorem b_shl (n : Nat) (hn : n < 32) (x : Int32) {i : Nat} (hi : i < 32) : bt (x <<< (nI n &&& 31)) i = (decide (n ≤ i) && bt x (i - n)) := by
  unfold bt
  rw [Int32.toBitVec_shiftLeft]
  show (x.toBitVec <<< ((nI n &&& 31).toBitVec.smod 32).toNat).getLsbD i = _
  rw [s_l n hn, BitVec.getLsbD_shiftLeft]
  rcases Nat.lt_or_ge i n with h | h
  · simp [h, Nat.not_le.mpr h]
  · simp [hi, h, Nat.not_lt.mpr h]
theorem b_sshr (n : Nat) (hn : n < 32) (x : Int32) {i : Nat} (hi : i < 32) : bt (x >>> (nI n &&& 31)) i = if n + i < 32 then bt x (n + i) else bt x 31 := by
  unfold bt
  rw [Int32.toBitVec_shiftRight]
  show (x.toBitVec.sshiftRight ((nI n &&& 31).toBitVec.smod 32).toNat).getLsbD i = _
  rw [s_l n hn, BitVec.getLsbD_sshiftRight, BitVec.msb_eq_getLsbD_last]
  simp [hi]
theorem m_one : ∀ i, i < 32 → bt 1 i = decide (i = 0) := by decide +kernel
theorem m_and1 (y : Int32) : (y &&& 1 = 0) ↔ bt y 0 = false := by
  constructor
  · intro h
    have e := b_and y 1 0
    rw [h, b_0, m_one 0 (by omega)] at e
    simpa using e.symm
  · intro h
    refine b_ext fun i hi => ?_
    rw [b_and, m_one i hi, b_0]
    by_cases h0 : i = 0
    · subst h0; simp [h]
    · simp [h0]
/-- one bit of a mask, as the bytecode asks it -/
theorem m_bit {x : Int32} {l : Nat} (hl : l < 31) : ((x >>> (nI l &&& 31)) &&& 1 = 0) ↔ bt x l = false := by
  rw [m_and1, b_sshr l (by omega) x (by omega), if_pos (by omega)]
  rfl
theorem m_set {x : Int32} {p l : Nat} (hp : p < 32) (hl : l < 32) : bt (x ||| ((1 : Int32) <<< (nI p &&& 31))) l = (bt x l || decide (l = p)) := by
  rw [b_or, b_shl p hp 1 hl]
  congr 1
  by_cases h : p ≤ l
  · rw [m_one (l - p) (by omega)]
    by_cases h2 : l = p
    · subst h2; simp
    · simp [h2, h]; omega
  · simp [h]; omega
theorem m_clr {x : Int32} {p l : Nat} (hp : p < 32) (hl : l < 32) : bt (x &&& (((1 : Int32) <<< (nI p &&& 31)) ^^^ (-1))) l = (bt x l && !decide (l = p)) := by
  rw [b_and, b_xor, b_m1 l hl, b_shl p hp 1 hl]
  congr 1
  by_cases h : p ≤ l
  · rw [m_one (l - p) (by omega)]
    by_cases h2 : l = p
    · subst h2; simp
    · simp [h2, h]; omega
  · simp [h]; omega
theorem m_full : ∀ n, n < 8 → ∀ l, l < 7 → bt (((1 : Int32) <<< (nI n &&& 31)) - 1) l = decide (l < n) := by decide +kernel
theorem m_evn : ∀ k, k < 7 → ((nI k - nI k / 2 * 2 = 0) ↔ k % 2 = 0) := by decide +kernel
/-- fewer values than places: a place is free -/
theorem pg_free : ∀ (k n : Nat) (f : Nat → Nat), k < n → ∃ l, l < n ∧ ∀ i, i < k → f i ≠ l
  | 0, n, f, h => ⟨0, h, fun i hi => by omega⟩
  | k + 1, n, f, h => by
    obtain ⟨l, hl, ho⟩ := pg_free k (n - 1) (fun i => if f k < f i then f i - 1 else f i) (by omega)
    by_cases hc : f k ≤ l
    · refine ⟨l + 1, by omega, fun i hi => ?_⟩
      by_cases hik : i = k
      · subst hik; omega
      · have e := ho i (by omega)
        split at e <;> omega
    · refine ⟨l, by omega, fun i hi => ?_⟩
      by_cases hik : i = k
      · subst hik; omega
      · have e := ho i (by omega)
        split at e <;> omega
/-- n different values below n: each is one of them -/
theorem pg_onto : ∀ (n : Nat) (f : Nat → Nat), (∀ i, i < n → f i < n) → (∀ i j, i < n → j < n → f i = f j → i = j) → ∀ l, l < n → ∃ i, i < n ∧ f i = l
  | 0, f, _, _, l, hl => by omega
  | n + 1, f, hb, hi, l, hl => by
    by_cases hln : l = f n
    · exact ⟨n, by omega, hln.symm⟩
    · obtain ⟨i, h1, h2⟩ := pg_onto n (fun i => if f n < f i then f i - 1 else f i) (fun i h => by
          have e1 := hb i (by omega)
          have e2 := hb n (by omega)
          have e3 : f i ≠ f n := fun q => by have := hi i n (by omega) (by omega) q; omega
          split <;> omega) (fun i j h1 h2 h => by
          have e1 : f i ≠ f n := fun q => by have := hi i n (by omega) (by omega) q; omega
          have e2 : f j ≠ f n := fun q => by have := hi j n (by omega) (by omega) q; omega
          refine hi i j (by omega) (by omega) ?_
          split at h <;> split at h <;> omega) (if f n < l then l - 1 else l) (by
          have e := hb n (by omega)
          split <;> omega)
      refine ⟨i, by omega, ?_⟩
      have e3 : f i ≠ f n := fun q => by have := hi i n (by omega) (by omega) q; omega
      split at h2 <;> split at h2 <;> omega
/-- the best of the letters below l that are not taken: the heaviest (b) or the lightest; of like ones the first -/
def betF (hv : Nat → Int32) (b : Bool) (q l : Nat) : Bool := if b then decide (hv q < hv l) else decide (hv l < hv q)
def pick (hv : Nat → Int32) (tk : Nat → Bool) (b : Bool) : Nat → Option Nat
  | 0 => none
  | l + 1 => if tk l = true then pick hv tk b l else match pick hv tk b l with
    | none => some l
    | some q => if betF hv b q l = true then some l else some q
theorem pick_some {hv : Nat → Int32} {tk : Nat → Bool} {b : Bool} : ∀ {n q : Nat}, pick hv tk b n = some q → q < n ∧ tk q = false
  | 0, q, h => by cases h
  | l + 1, q, h => by
    unfold pick at h
    split at h
    · have e := pick_some h
      exact ⟨by omega, e.2⟩
    · rename_i ht
      have ht : tk l = false := by simpa using ht
      split at h
      · cases h; exact ⟨by omega, ht⟩
      · rename_i q2 h2
        split at h
        · cases h; exact ⟨by omega, ht⟩
        · cases h
          have e := pick_some h2
          exact ⟨by omega, e.2⟩
theorem pick_none {hv : Nat → Int32} {tk : Nat → Bool} {b : Bool} : ∀ {n : Nat}, pick hv tk b n = none → ∀ l, l < n → tk l = true
  | 0, _, l, hl => by omega
  | n + 1, h, l, hl => by
    unfold pick at h
    split at h
    · rename_i ht
      rcases Nat.lt_or_ge l n with h1 | h1
      · exact pick_none h l h1
      · rw [show l = n by omega]; exact ht
    · split at h
      · cases h
      · split at h <;> cases h
def bigF (law : Int32) (k : Nat) : Bool := decide (law = 0) || (decide (law = 2) && k % 2 == 0)
def tkF (hv : Nat → Int32) (n : Nat) (law : Int32) : Nat → Nat → Bool
  | 0, _ => false
  | k + 1, l => tkF hv n law k l || (pick hv (tkF hv n law k) (bigF law k) n == some l)
def ordF (hv : Nat → Int32) (n : Nat) (law : Int32) (k : Nat) : Nat := (pick hv (tkF hv n law k) (bigF law k) n).getD 0
theorem tkF_mem {hv : Nat → Int32} {n : Nat} {law : Int32} : ∀ {k l : Nat}, tkF hv n law k l = true → ∃ i, i < k ∧ pick hv (tkF hv n law i) (bigF law i) n = some l
  | 0, l, h => by cases h
  | k + 1, l, h => by
    unfold tkF at h
    rw [Bool.or_eq_true] at h
    rcases h with h | h
    · obtain ⟨i, h1, h2⟩ := tkF_mem h
      exact ⟨i, by omega, h2⟩
    · exact ⟨k, by omega, by simpa using h⟩
theorem ord_some {hv : Nat → Int32} {n : Nat} {law : Int32} {k : Nat} (hk : k < n) : pick hv (tkF hv n law k) (bigF law k) n = some (ordF hv n law k) := by
  cases h : pick hv (tkF hv n law k) (bigF law k) n with
  | some q => unfold ordF; rw [h]; rfl
  | none =>
    exfalso
    have ha := pick_none h
    obtain ⟨l, hl, ho⟩ := pg_free k n (fun i => (pick hv (tkF hv n law i) (bigF law i) n).getD 0) hk
    obtain ⟨i, h1, h2⟩ := tkF_mem (ha l hl)
    refine ho i h1 ?_
    rw [h2]
    rfl
theorem ord_lt {hv : Nat → Int32} {n : Nat} {law : Int32} {k : Nat} (hk : k < n) : ordF hv n law k < n := (pick_some (ord_some hk)).1
theorem tkF_le {hv : Nat → Int32} {n : Nat} {law : Int32} {i k l : Nat} (hik : i ≤ k) (h : tkF hv n law i l = true) : tkF hv n law k l = true := by
  induction k with
  | zero => rw [show i = 0 by omega] at h; exact h
  | succ k ih =>
    by_cases e : i = k + 1
    · subst e; exact h
    · unfold tkF
      rw [ih (by omega)]
      rfl
theorem ord_inj {hv : Nat → Int32} {n : Nat} {law : Int32} {i j : Nat} (hi : i < n) (hj : j < n) (h : ordF hv n law i = ordF hv n law j) : i = j := by
  have key : ∀ a b, a < b → b < n → ordF hv n law a ≠ ordF hv n law b := by
    intro a b hab hb he
    have h1 := ord_some (hv := hv) (law := law) (show a < n by omega)
    have h2 := (pick_some (ord_some (hv := hv) (law := law) hb)).2
    have h3 : tkF hv n law (a + 1) (ordF hv n law a) = true := by
      unfold tkF
      rw [h1]
      simp
    have h4 := tkF_le (show a + 1 ≤ b by omega) h3
    rw [he, h2] at h4
    cases h4
  rcases Nat.lt_trichotomy i j with h1 | h1 | h1
  · exact absurd h (key i j h1 hj)
  · exact h1
  · exact absurd h.symm (key j i h1 hi)
theorem ord_onto {hv : Nat → Int32} {n : Nat} {law : Int32} {l : Nat} (hl : l < n) : ∃ k, k < n ∧ ordF hv n law k = l :=
  pg_onto n (ordF hv n law) (fun _ h => ord_lt h) (fun _ _ h1 h2 h => ord_inj h1 h2 h) l hl
/-- only what stands below n counts -/
theorem pick_congr {hv hw : Nat → Int32} {tk tl : Nat → Bool} {b : Bool} : ∀ {n : Nat}, (∀ l, l < n → hv l = hw l) → (∀ l, l < n → tk l = tl l) → pick hv tk b n = pick hw tl b n
  | 0, _, _ => rfl
  | n + 1, h1, h2 => by
    have e := pick_congr (n := n) (hv := hv) (hw := hw) (tk := tk) (tl := tl) (b := b) (fun l hl => h1 l (by omega)) (fun l hl => h2 l (by omega))
    unfold pick
    rw [e, h2 n (by omega)]
    cases hp : pick hw tl b n with
    | none => rfl
    | some q =>
      have hq := (pick_some hp).1
      have e2 : betF hv b q n = betF hw b q n := by unfold betF; rw [h1 q (by omega), h1 n (by omega)]
      simp only [e2]
theorem tkF_congr {hv hw : Nat → Int32} {n : Nat} {law : Int32} (h : ∀ l, l < n → hv l = hw l) : ∀ k l, tkF hv n law k l = tkF hw n law k l
  | 0, _ => rfl
  | k + 1, l => by
    unfold tkF
    rw [tkF_congr h k l, pick_congr h (fun l _ => tkF_congr h k l)]
theorem ordF_congr {hv hw : Nat → Int32} {n : Nat} {law : Int32} (h : ∀ l, l < n → hv l = hw l) (k : Nat) : ordF hv n law k = ordF hw n law k := by
  unfold ordF
  rw [pick_congr h (fun l _ => tkF_congr h k l)]
/-- how far two places are apart, by their rows -/
def dstF (xs ys : Nat → Int32) (p q : Nat) : Int32 := mm_abs (xs p - xs q) + mm_abs (ys p - ys q)
/-- the places of a walk: office first -/
def plcF (g : Nat → Nat) (od : Nat → Nat) : Nat → Nat
  | 0 => 0
  | k + 1 => g (od k)
/-- minutes behind the first k letters -/
def wlkF (xs ys : Nat → Int32) (g : Nat → Nat) (od : Nat → Nat) : Nat → Int32
  | 0 => 0
  | k + 1 => wlkF xs ys g od k + dstF xs ys (plcF g od k) (g (od k))
