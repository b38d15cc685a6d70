/-! A SMALL MACHINE: the class's and the reference's methods run over a memory of numbers alone (which cell is which object or row is fixed by a shape); part 05 shows that the JVM does what the small machine does. -/
abbrev mm_M : Type := (Nat → Nat → Int32) × (Nat → Nat → Int64)
abbrev mm_F : Type := Option (Option Nat)
abbrev mm_H : Type := (FieldType × Nat) ⊕ (Nat × List mm_F)
abbrev mm_O : Type := Option Value → mm_M → Prop
abbrev mm_C : Type := Nat → List Value → mm_M → mm_O → Prop
abbrev mm_K : Type := Nat → List Value → List Value → mm_M → Prop
def mm_fv (σ : mm_M) (k j : Nat) (f : mm_F) : Value := match f with
  | none => .int (σ.1 k j)
  | some none => .long (σ.2 k j)
  | some (some r) => .ref r
def mm_sti (σ : mm_M) (k j : Nat) (x : Int32) : mm_M := (va_up σ.1 k (upd (σ.1 k) j x), σ.2)
def mm_stl (σ : mm_M) (k j : Nat) (x : Int64) : mm_M := (σ.1, va_up σ.2 k (va_up (σ.2 k) j x))
def mm_g (b : Bool) (A : Prop) : Prop := match b with
  | true => A
  | false => False
def mm_pI (st : List Value) (k : Int32 → List Value → Prop) : Prop := match st with
  | .int x :: r => k x r
  | _ => False
def mm_pR (st : List Value) (k : Nat → List Value → Prop) : Prop := match st with
  | .ref x :: r => k x r
  | _ => False
def mm_pL (st : List Value) (k : Int64 → List Value → Prop) : Prop := match st with
  | .long x :: r => k x r
  | _ => False
def mm_pE (st : List Value) (A : Prop) : Prop := match st with
  | [] => A
  | _ => False
def mm_lI (L : List Value) (i : Nat) (k : Int32 → Prop) : Prop := match L[i]? with
  | some (.int x) => k x
  | _ => False
def mm_lR (L : List Value) (i : Nat) (k : Nat → Prop) : Prop := match L[i]? with
  | some (.ref x) => k x
  | _ => False
def mm_lL (LL : List (Nat × Int64)) (i : Nat) (k : Int64 → Prop) : Prop := match LL with
  | [] => False
  | q :: r => match q.1 == i with
    | true => k q.2
    | false => mm_lL r i k
def mm_j (pc : Nat) (off : Int) (k : Nat → Prop) : Prop := match (pc : Int) + off with
  | .ofNat t => k t
  | .negSucc _ => False
def mm_som {α : Type} (o : Option α) (k : α → Prop) : Prop := match o with
  | some a => k a
  | none => False
def mm_okL (L : List Value) (LL : List (Nat × Int64)) (i : Nat) : Bool := Nat.blt i L.length && LL.all (fun q => !(q.1 == i) && !(q.1 + 1 == i))
def mm_pops : Nat → List Value → Option (List Value × List Value)
  | 0, st => some ([], st)
  | _ + 1, [] => none
  | n + 1, v :: st => match mm_pops n st with
    | some q => some (q.1 ++ [v], q.2)
    | none => none
def mm_r8 (r : List Value) : Bool := Nat.ble (r.map Value.category).sum 8
def mm_nar (ty : FieldType) (x : Int32) (A : Prop) : Prop := match ty with
  | .int => A
  | .boolean => (x = 0 ∨ x = 1) ∧ A
  | _ => False
def mm_abs (x : Int32) : Int32 := if 0 ≤ x then x else 0 - x
def mm_max (x y : Int32) : Int32 := if x < y then y else x
def mm_R : Nat → String
  | 0 => RX0
  | 1 => RX1
  | 2 => RX2
  | 3 => RX3
  | 4 => RX4
  | 5 => RX5
  | 6 => RX6
  | _ => RX7
def mm_ty : Nat → Nat → FieldType
  | 0 => tyX0
  | 1 => tyX1
  | 2 => tyX2
  | 3 => tyX3
  | 4 => tyX4
  | 5 => tyX5
  | 6 => tyX6
  | _ => tyX7
/-- a place in a table of rows (class, number, what it says) -/
def mm_find {α : Type} (o i : Nat) : List (Nat × Nat × α) → Option α
  | [] => none
  | q :: r => match q.1 == o && q.2.1 == i with
    | true => some q.2.2
    | false => mm_find o i r
theorem mm_find_mem {α : Type} {o i : Nat} {a : α} : ∀ {l : List (Nat × Nat × α)}, mm_find o i l = some a → (o, i, a) ∈ l
  | [], h => by cases h
  | q :: r, h => by
    unfold mm_find at h
    split at h
    · rename_i hq
      simp only [Bool.and_eq_true, beq_iff_eq] at hq
      cases h
      obtain ⟨h1, h2⟩ := hq
      subst h1; subst h2
      exact List.mem_cons_self
    · exact List.mem_cons_of_mem _ (mm_find_mem h)
