/-! ONE INSTRUCTION of the small machine, as what must hold before it so that K holds at the next place and P behind the end -/
def mm_str (a : Nat) : Option (List Int32) := match Nat.ble 1000 a with
  | true => mm_bytes[a - 1000]?
  | false => none
/-- a call of method j, in any table -/
def mm_call (call : mm_C) (j : Nat) (st : List Value) (σ : mm_M) (K : List Value → mm_M → Prop) : Prop := mm_som (mm_pops (mm_mt j).2.2.2.2.2.2 st) fun q => mm_g (mm_r8 q.2) (call j q.1 σ fun v σ' => K (v.toList ++ q.2) σ')
def mm_callV (sh : List mm_H) (call : mm_C) (j : Nat) (st : List Value) (σ : mm_M) (K : List Value → mm_M → Prop) : Prop := mm_som (mm_pops (mm_mt j).2.2.2.2.2.2 st) fun q => mm_pR q.2 fun a r => mm_som sh[a]? fun h => match h with
  | .inl _ => False
  | .inr o => mm_g (o.1 == (mm_mt j).1 && mm_r8 r) (call j (.ref a :: q.1) σ fun v σ' => K (v.toList ++ r) σ')
def mm_arr (sh : List mm_H) (a : Nat) (k : FieldType → Nat → Prop) : Prop := mm_som sh[a]? fun h => match h with
  | .inl q => k q.1 q.2
  | .inr _ => False
def mm_fld (sh : List mm_H) (own idx a : Nat) (k : Nat → Nat → mm_F → Prop) : Prop := mm_som (mm_find own idx mm_ftab) fun q => mm_som sh[a]? fun h => match h with
  | .inl _ => False
  | .inr o => mm_g (o.1 == q.1) (mm_som o.2[q.2]? fun f => k q.1 q.2 f)
def mm_jif (c : ClassFile.Cond) (x y : Int32) (A B : Prop) : Prop := match c with
  | .eq => if x = y then A else B
  | .ne => if x = y then B else A
  | .lt => if x < y then A else B
  | .ge => if y ≤ x then A else B
  | .gt => if y < x then A else B
  | .le => if x ≤ y then A else B
def mm_step (sh : List mm_H) (call : mm_C) (own : Nat) (ret : Option FieldType) (LL : List (Nat × Int64)) (i : Instr) (len pc : Nat) (L st : List Value) (σ : mm_M) (K : mm_K) (P : mm_O) : Prop := match i with
  | .iconst n => mm_g (len == 1) (K (pc + 1) L (.int (Int32.ofInt n) :: st) σ)
  | .bipush n => mm_g (len == 2) (K (pc + 2) L (.int (Int8.ofInt n).toInt32 :: st) σ)
  | .sipush n => mm_g (len == 3) (K (pc + 3) L (.int (Int16.ofInt n).toInt32 :: st) σ)
  | .lconst n => mm_g (len == 1) (K (pc + 1) L (.long (Int64.ofNat (n : Nat)) :: st) σ)
  | .ldc idx => mm_g (len == 2) (match mm_find own idx mm_ctab with
    | some v => K (pc + 2) L (.int v :: st) σ
    | none => mm_som (mm_find own idx mm_stab) fun a => K (pc + 2) L (.ref a :: st) σ)
  | .ldc_w idx => mm_g (len == 3) (mm_som (mm_find own idx mm_ctab) fun v => K (pc + 3) L (.int v :: st) σ)
  | .ldc2_w idx => mm_g (len == 3) (mm_som (mm_find own idx mm_jtab) fun v => K (pc + 3) L (.long v :: st) σ)
  | .iload_n n => mm_g (len == 1) (mm_lI L n fun x => K (pc + 1) L (.int x :: st) σ)
  | .iload n => mm_g (len == 2) (mm_lI L n fun x => K (pc + 2) L (.int x :: st) σ)
  | .lload_n n => mm_g (len == 1) (mm_lL LL n fun x => K (pc + 1) L (.long x :: st) σ)
  | .lload n => mm_g (len == 2) (mm_lL LL n fun x => K (pc + 2) L (.long x :: st) σ)
  | .aload_n n => mm_g (len == 1) (mm_lR L n fun x => K (pc + 1) L (.ref x :: st) σ)
  | .aload n => mm_g (len == 2) (mm_lR L n fun x => K (pc + 2) L (.ref x :: st) σ)
  | .istore_n n => mm_g (len == 1 && mm_okL L LL n) (mm_pI st fun x r => K (pc + 1) (L.set n (.int x)) r σ)
  | .istore n => mm_g (len == 2 && mm_okL L LL n) (mm_pI st fun x r => K (pc + 2) (L.set n (.int x)) r σ)
  | .iinc n d => mm_g (len == 3 && mm_okL L LL n) (mm_lI L n fun x => K (pc + 3) (L.set n (.int (x + Int32.ofInt d))) st σ)
  | .iadd => mm_g (len == 1) (mm_pI st fun y r => mm_pI r fun x r => K (pc + 1) L (.int (x + y) :: r) σ)
  | .isub => mm_g (len == 1) (mm_pI st fun y r => mm_pI r fun x r => K (pc + 1) L (.int (x - y) :: r) σ)
  | .imul => mm_g (len == 1) (mm_pI st fun y r => mm_pI r fun x r => K (pc + 1) L (.int (x * y) :: r) σ)
  | .iand => mm_g (len == 1) (mm_pI st fun y r => mm_pI r fun x r => K (pc + 1) L (.int (x &&& y) :: r) σ)
  | .ior => mm_g (len == 1) (mm_pI st fun y r => mm_pI r fun x r => K (pc + 1) L (.int (x ||| y) :: r) σ)
  | .ixor => mm_g (len == 1) (mm_pI st fun y r => mm_pI r fun x r => K (pc + 1) L (.int (x ^^^ y) :: r) σ)
  | .ishl => mm_g (len == 1) (mm_pI st fun y r => mm_pI r fun x r => K (pc + 1) L (.int (x <<< (y &&& 31)) :: r) σ)
  | .ishr => mm_g (len == 1) (mm_pI st fun y r => mm_pI r fun x r => K (pc + 1) L (.int (x >>> (y &&& 31)) :: r) σ)
  | .idiv => mm_g (len == 1) (mm_pI st fun y r => mm_pI r fun x r => (¬ y = 0) ∧ K (pc + 1) L (.int (x / y) :: r) σ)
  | .irem => mm_g (len == 1) (mm_pI st fun y r => mm_pI r fun x r => (¬ y = 0) ∧ K (pc + 1) L (.int (x - x / y * y) :: r) σ)
  | .ineg => mm_g (len == 1) (mm_pI st fun x r => K (pc + 1) L (.int (-x) :: r) σ)
  | .ladd => mm_g (len == 1) (mm_pL st fun y r => mm_pL r fun x r => K (pc + 1) L (.long (x + y) :: r) σ)
  | .lsub => mm_g (len == 1) (mm_pL st fun y r => mm_pL r fun x r => K (pc + 1) L (.long (x - y) :: r) σ)
  | .lmul => mm_g (len == 1) (mm_pL st fun y r => mm_pL r fun x r => K (pc + 1) L (.long (x * y) :: r) σ)
  | .land => mm_g (len == 1) (mm_pL st fun y r => mm_pL r fun x r => K (pc + 1) L (.long (x &&& y) :: r) σ)
  | .lrem => mm_g (len == 1) (mm_pL st fun y r => mm_pL r fun x r => (¬ y = 0) ∧ K (pc + 1) L (.long (x - x / y * y) :: r) σ)
  | .lshr => mm_g (len == 1) (mm_pI st fun y r => mm_pL r fun x r => K (pc + 1) L (.long (x >>> (y.toInt64 &&& 63)) :: r) σ)
  | .lcmp => mm_g (len == 1) (mm_pL st fun y r => mm_pL r fun x r => K (pc + 1) L (.int (lg_cmp x y) :: r) σ)
  | .i2l => mm_g (len == 1) (mm_pI st fun x r => K (pc + 1) L (.long x.toInt64 :: r) σ)
  | .l2i => mm_g (len == 1) (mm_pL st fun x r => K (pc + 1) L (.int x.toInt32 :: r) σ)
  | .i2b => mm_g (len == 1) (mm_pI st fun x r => K (pc + 1) L (.int x.toInt8.toInt32 :: r) σ)
  | .ifCond c off => mm_g (len == 3) (mm_pI st fun x r => mm_j pc off fun t => mm_jif c x 0 (K t L r σ) (K (pc + 3) L r σ))
  | .if_icmp c off => mm_g (len == 3) (mm_pI st fun y r => mm_pI r fun x r => mm_j pc off fun t => mm_jif c x y (K t L r σ) (K (pc + 3) L r σ))
  | .goto off => mm_g (len == 3) (mm_j pc off fun t => K t L st σ)
  | .tableswitch dflt lo hi offs => mm_pI st fun x r => if x.toInt < lo ∨ hi < x.toInt then mm_j pc dflt fun t => K t L r σ else mm_som offs[(x.toInt - lo).toNat]? fun off => mm_j pc off fun t => K t L r σ
  | .dup => mm_g (len == 1) (match st with
    | .int x :: r => K (pc + 1) L (.int x :: .int x :: r) σ
    | .ref x :: r => K (pc + 1) L (.ref x :: .ref x :: r) σ
    | _ => False)
  | .pop => mm_g (len == 1) (match st with
    | .int _ :: r => K (pc + 1) L r σ
    | .ref _ :: r => K (pc + 1) L r σ
    | _ => False)
  | .getfield idx => mm_g (len == 3) (mm_pR st fun a r => mm_fld sh own idx a fun _ j f => K (pc + 3) L (mm_fv σ a j f :: r) σ)
  | .putfield idx => mm_g (len == 3) (match st with
    | .int x :: r => mm_pR r fun a r => mm_fld sh own idx a fun ci j f => match f with
      | none => mm_nar (mm_ty ci j) x (K (pc + 3) L r (mm_sti σ a j x))
      | some _ => False
    | .long x :: r => mm_pR r fun a r => mm_fld sh own idx a fun ci j f => match f, mm_ty ci j with
      | some none, .long => K (pc + 3) L r (mm_stl σ a j x)
      | _, _ => False
    | _ => False)
  | .arraylength => mm_g (len == 1) (mm_pR st fun a r => mm_arr sh a fun ty n => match ty with
    | .int => K (pc + 1) L (.int (Int32.ofNat n) :: r) σ
    | .byte => K (pc + 1) L (.int (Int32.ofNat n) :: r) σ
    | .boolean => K (pc + 1) L (.int (Int32.ofNat n) :: r) σ
    | _ => False)
  | .iaload => mm_g (len == 1) (mm_pI st fun i r => mm_pR r fun a r => mm_arr sh a fun ty n => match ty with
    | .int => vp_in i n ∧ K (pc + 1) L (.int (σ.1 a i.toNatClampNeg) :: r) σ
    | _ => False)
  | .baload => mm_g (len == 1) (mm_pI st fun i r => mm_pR r fun a r => mm_arr sh a fun ty n => match ty with
    | .byte => vp_in i n ∧ K (pc + 1) L (.int (σ.1 a i.toNatClampNeg) :: r) σ
    | .boolean => vp_in i n ∧ K (pc + 1) L (.int (σ.1 a i.toNatClampNeg) :: r) σ
    | _ => False)
  | .iastore => mm_g (len == 1) (mm_pI st fun x r => mm_pI r fun i r => mm_pR r fun a r => mm_arr sh a fun ty n => match ty with
    | .int => vp_in i n ∧ K (pc + 1) L r (mm_sti σ a i.toNatClampNeg x)
    | _ => False)
  | .bastore => mm_g (len == 1) (mm_pI st fun x r => mm_pI r fun i r => mm_pR r fun a r => mm_arr sh a fun ty n => match ty with
    | .byte => vp_in i n ∧ K (pc + 1) L r (mm_sti σ a i.toNatClampNeg (vp_nar .byte x))
    | .boolean => vp_in i n ∧ K (pc + 1) L r (mm_sti σ a i.toNatClampNeg (vp_nar .boolean x))
    | _ => False)
  | .invokevirtual idx => mm_g (len == 3) (match mm_find own idx mm_ltab with
    | some j => mm_g (!(mm_mt j).2.2.2.2.2.1) (mm_callV sh call j st σ fun st σ => K (pc + 3) L st σ)
    | none => mm_som (mm_find own idx mm_xtab) fun x => match x with
      | 3 => mm_pR st fun a r => mm_som (mm_str a) fun b => mm_g (mm_r8 r) (K (pc + 3) L (.int (nI b.length) :: r) σ)
      | 4 => mm_pI st fun i r => mm_pR r fun a r => mm_som (mm_str a) fun b => mm_g (mm_r8 r) (vp_in i b.length ∧ K (pc + 3) L (.int (b.getD i.toNatClampNeg 0) :: r) σ)
      | _ => False)
  | .invokestatic idx => mm_g (len == 3) (match mm_find own idx mm_ltab with
    | some j => mm_g (mm_mt j).2.2.2.2.2.1 (mm_call call j st σ fun st σ => K (pc + 3) L st σ)
    | none => match mm_find own idx mm_ntab with
      | some j => mm_g (mm_mt j).2.2.2.2.2.1 (mm_call call j st σ fun st σ => K (pc + 3) L st σ)
      | none => mm_som (mm_find own idx mm_xtab) fun x => match x with
        | 5 => mm_pI st fun x r => mm_g (mm_r8 r) (K (pc + 3) L (.int (mm_abs x) :: r) σ)
        | 6 => mm_pI st fun y r => mm_pI r fun x r => mm_g (mm_r8 r) (K (pc + 3) L (.int (mm_max x y) :: r) σ)
        | _ => False)
  | .ireturn => mm_g (len == 1) (mm_pI st fun x r => mm_pE r (mm_som ret fun ty => mm_nar ty x (P (some (.int x)) σ)))
  | .lreturn => mm_g (len == 1) (mm_pL st fun x r => mm_pE r (match ret with
    | some .long => P (some (.long x)) σ
    | _ => False))
  | .areturn => mm_g (len == 1) (mm_pR st fun x r => mm_pE r (match ret with
    | some (.object _) => P (some (.ref x)) σ
    | _ => False))
  | .return_ => mm_g (len == 1) (mm_pE st (match ret with
    | none => P none σ
    | some _ => False))
  | _ => False
theorem mm_g_m {b : Bool} {A B : Prop} (h : A → B) : mm_g b A → mm_g b B := by cases b <;> first | exact id | exact h
theorem mm_g_e {b : Bool} {A : Prop} (h : mm_g b A) : b = true ∧ A := by cases b <;> first | exact h.elim | exact ⟨rfl, h⟩
theorem mm_pI_m {st : List Value} {k k' : Int32 → List Value → Prop} (h : ∀ x r, k x r → k' x r) : mm_pI st k → mm_pI st k' := by
  unfold mm_pI; split <;> first | exact h _ _ | exact id
theorem mm_pR_m {st : List Value} {k k' : Nat → List Value → Prop} (h : ∀ x r, k x r → k' x r) : mm_pR st k → mm_pR st k' := by
  unfold mm_pR; split <;> first | exact h _ _ | exact id
theorem mm_pL_m {st : List Value} {k k' : Int64 → List Value → Prop} (h : ∀ x r, k x r → k' x r) : mm_pL st k → mm_pL st k' := by
  unfold mm_pL; split <;> first | exact h _ _ | exact id
theorem mm_pE_m {st : List Value} {A B : Prop} (h : A → B) : mm_pE st A → mm_pE st B := by
  unfold mm_pE; split <;> first | exact h | exact id
theorem mm_lI_m {L : List Value} {i : Nat} {k k' : Int32 → Prop} (h : ∀ x, k x → k' x) : mm_lI L i k → mm_lI L i k' := by
  unfold mm_lI; split <;> first | exact h _ | exact id
theorem mm_lR_m {L : List Value} {i : Nat} {k k' : Nat → Prop} (h : ∀ x, k x → k' x) : mm_lR L i k → mm_lR L i k' := by
  unfold mm_lR; split <;> first | exact h _ | exact id
theorem mm_lL_m {LL : List (Nat × Int64)} {i : Nat} {k k' : Int64 → Prop} (h : ∀ x, k x → k' x) : mm_lL LL i k → mm_lL LL i k' := by
  induction LL with
  | nil => exact id
  | cons q r ih =>
    unfold mm_lL
    split
    · exact h _
    · exact ih
theorem mm_j_m {pc : Nat} {off : Int} {k k' : Nat → Prop} (h : ∀ t, k t → k' t) : mm_j pc off k → mm_j pc off k' := by
  unfold mm_j; split <;> first | exact h _ | exact id
theorem mm_som_m {α : Type} {o : Option α} {k k' : α → Prop} (h : ∀ a, k a → k' a) : mm_som o k → mm_som o k' := by
  unfold mm_som; split <;> first | exact h _ | exact id
theorem mm_nar_m {ty : FieldType} {x : Int32} {A B : Prop} (h : A → B) : mm_nar ty x A → mm_nar ty x B := by
  unfold mm_nar; split <;> first | exact h | exact id | exact fun q => ⟨q.1, h q.2⟩
theorem mm_arr_m {sh : List mm_H} {a : Nat} {k k' : FieldType → Nat → Prop} (h : ∀ t n, k t n → k' t n) : mm_arr sh a k → mm_arr sh a k' := by
  unfold mm_arr; refine mm_som_m fun q => ?_; cases q <;> first | exact h _ _ | exact id
theorem mm_fld_m {sh : List mm_H} {own idx a : Nat} {k k' : Nat → Nat → mm_F → Prop} (h : ∀ c j f, k c j f → k' c j f) : mm_fld sh own idx a k → mm_fld sh own idx a k' := by
  unfold mm_fld; refine mm_som_m fun q => mm_som_m fun o => ?_
  cases o with
  | inl _ => exact id
  | inr o => exact mm_g_m (mm_som_m fun f => h _ _ _)
theorem mm_jif_m {c : ClassFile.Cond} {x y : Int32} {A B A' B' : Prop} (ha : A → A') (hb : B → B') : mm_jif c x y A B → mm_jif c x y A' B' := by
  unfold mm_jif; cases c <;> dsimp only <;> split <;> first | exact ha | exact hb
/-- a call's room is for all its ends -/
def mm_mono (call : mm_C) : Prop := ∀ (j : Nat) (as : List Value) (σ : mm_M) (P P' : mm_O), (∀ v σ, P v σ → P' v σ) → call j as σ P → call j as σ P'
theorem mm_call_m {call : mm_C} (hC : mm_mono call) {j : Nat} {st : List Value} {σ : mm_M} {K K' : List Value → mm_M → Prop} (h : ∀ st σ, K st σ → K' st σ) : mm_call call j st σ K → mm_call call j st σ K' := by
  unfold mm_call; exact mm_som_m fun q => mm_g_m (hC _ _ _ _ _ fun v σ => h _ _)
theorem mm_callV_m {sh : List mm_H} {call : mm_C} (hC : mm_mono call) {j : Nat} {st : List Value} {σ : mm_M} {K K' : List Value → mm_M → Prop} (h : ∀ st σ, K st σ → K' st σ) : mm_callV sh call j st σ K → mm_callV sh call j st σ K' := by
  unfold mm_callV; refine mm_som_m fun q => mm_pR_m fun a r => mm_som_m fun o => ?_
  cases o with
  | inl _ => exact id
  | inr o => exact mm_g_m (hC _ _ _ _ _ fun v σ => h _ _)
set_option maxHeartbeats 4000000 in
theorem mm_step_m {sh : List mm_H} {call : mm_C} (hC : mm_mono call) {own : Nat} {ret : Option FieldType} {LL : List (Nat × Int64)} {i : Instr} {len pc : Nat} {L st : List Value} {σ : mm_M} {K K' : mm_K} {P P' : mm_O} (hK : ∀ pc L st σ, K pc L st σ → K' pc L st σ) (hP : ∀ v σ, P v σ → P' v σ) : mm_step sh call own ret LL i len pc L st σ K P → mm_step sh call own ret LL i len pc L st σ K' P' := by
  cases i <;> first
    | exact id
    | (unfold mm_step; dsimp only; repeat' (first
        | exact hK _ _ _ _
        | exact hP _ _
        | with_reducible refine mm_g_m ?_
        | with_reducible refine mm_pI_m (fun _ _ => ?_)
        | with_reducible refine mm_pR_m (fun _ _ => ?_)
        | with_reducible refine mm_pL_m (fun _ _ => ?_)
        | with_reducible refine mm_pE_m ?_
        | with_reducible refine mm_lI_m (fun _ => ?_)
        | with_reducible refine mm_lR_m (fun _ => ?_)
        | with_reducible refine mm_lL_m (fun _ => ?_)
        | with_reducible refine mm_j_m (fun _ => ?_)
        | with_reducible refine mm_jif_m ?_ ?_
        | with_reducible refine mm_nar_m ?_
        | with_reducible refine mm_arr_m (fun _ _ => ?_)
        | with_reducible refine mm_fld_m (fun _ _ _ => ?_)
        | with_reducible refine mm_call_m hC (fun _ _ => ?_)
        | with_reducible refine mm_callV_m hC (fun _ _ => ?_)
        | with_reducible refine mm_som_m (fun _ => ?_)
        | with_reducible refine And.imp_right ?_
        | exact id
        | split))
/-- a method's body from a place on: the least such that every step leads there -/
def mm_dec (sh : List mm_H) (call : mm_C) (T : mm_T) (LL : List (Nat × Int64)) (pc : Nat) (L st : List Value) (σ : mm_M) (K : mm_K) (P : mm_O) : Prop := match decode T.2.2.1 pc with
  | .ok q => mm_step sh call T.1 T.2.2.2.2.1 LL q.1 q.2 pc L st σ K P
  | .error _ => False
theorem mm_dec_m {sh : List mm_H} {call : mm_C} (hC : mm_mono call) {T : mm_T} {LL : List (Nat × Int64)} {pc : Nat} {L st : List Value} {σ : mm_M} {K K' : mm_K} {P P' : mm_O} (hK : ∀ pc L st σ, K pc L st σ → K' pc L st σ) (hP : ∀ v σ, P v σ → P' v σ) : mm_dec sh call T LL pc L st σ K P → mm_dec sh call T LL pc L st σ K' P' := by
  unfold mm_dec; split
  · exact mm_step_m hC hK hP
  · exact id
def mm_wp (sh : List mm_H) (call : mm_C) (T : mm_T) (LL : List (Nat × Int64)) (P : mm_O) : mm_K := fun pc L st σ =>
  ∀ X : mm_K, (∀ pc L st σ, mm_dec sh call T LL pc L st σ X P → X pc L st σ) → X pc L st σ
theorem mm_wp_fold {sh : List mm_H} {call : mm_C} (hC : mm_mono call) {T : mm_T} {LL : List (Nat × Int64)} {P : mm_O} {pc : Nat} {L st : List Value} {σ : mm_M} (h : mm_dec sh call T LL pc L st σ (mm_wp sh call T LL P) P) : mm_wp sh call T LL P pc L st σ := by
  intro X hX
  exact hX _ _ _ _ (mm_dec_m hC (fun _ _ _ _ q => q X hX) (fun _ _ q => q) h)
theorem mm_wp_unfold {sh : List mm_H} {call : mm_C} (hC : mm_mono call) {T : mm_T} {LL : List (Nat × Int64)} {P : mm_O} {pc : Nat} {L st : List Value} {σ : mm_M} (h : mm_wp sh call T LL P pc L st σ) : mm_dec sh call T LL pc L st σ (mm_wp sh call T LL P) P :=
  h (fun pc L st σ => mm_dec sh call T LL pc L st σ (mm_wp sh call T LL P) P) (fun _ _ _ _ q => mm_dec_m hC (fun _ _ _ _ q => mm_wp_fold hC q) (fun _ _ q => q) q)
theorem mm_wp_m {sh : List mm_H} {call : mm_C} (hC : mm_mono call) {T : mm_T} {LL : List (Nat × Int64)} {P P' : mm_O} (hP : ∀ v σ, P v σ → P' v σ) {pc : Nat} {L st : List Value} {σ : mm_M} (h : mm_wp sh call T LL P pc L st σ) : mm_wp sh call T LL P' pc L st σ := by
  intro X hX
  exact h X (fun _ _ _ _ q => hX _ _ _ _ (mm_dec_m hC (fun _ _ _ _ q => q) hP q))
def mm_entL : Nat → List Value → List Value
  | n, [] => List.replicate n .null
  | n, .long _ :: vs => .null :: .null :: mm_entL (n - 2) vs
  | n, v :: vs => v :: mm_entL (n - 1) vs
def mm_entLL : Nat → List Value → List (Nat × Int64)
  | _, [] => []
  | i, .long y :: vs => (i, y) :: mm_entLL (i + 2) vs
  | i, _ :: vs => mm_entLL (i + 1) vs
def mm_okV : Value → Bool
  | .int _ => true
  | .ref _ => true
  | .long _ => true
  | _ => false
/-- a method, run at a depth of calls -/
def mm_run (sh : List mm_H) : Nat → mm_C
  | 0, _, _, _, _ => False
  | d + 1, j, as, σ, P => mm_g (Nat.blt j mm_mtab.length && as.all mm_okV && Nat.ble (as.map Value.category).sum (mm_mt j).2.2.2.1) (mm_wp sh (mm_run sh d) (mm_mt j) (mm_entLL 0 as) P 0 (mm_entL (mm_mt j).2.2.2.1 as) [] σ)
set_option maxRecDepth 100000 in
theorem mm_run_mono (sh : List mm_H) (d : Nat) : mm_mono (mm_run sh d) := by
  induction d with
  | zero =>
    intro j as σ P P' hP h
    unfold mm_run at h
    exact h.elim
  | succ d ih =>
    intro j as σ P P' hP h
    unfold mm_run at h ⊢
    exact mm_g_m (mm_wp_m ih hP) h
/-- the body of method j, at depth d + 1 -/
def mm_at (sh : List mm_H) (d j : Nat) (LL : List (Nat × Int64)) (P : mm_O) : mm_K := mm_wp sh (mm_run sh d) (mm_mt j) LL P
theorem mm_at_eq {sh : List mm_H} {d j : Nat} {LL : List (Nat × Int64)} {P : mm_O} {pc : Nat} {L st : List Value} {σ : mm_M} {cc : ByteArray} {i : Instr} {len : Nat} (hc : (mm_mt j).2.2.1 = cc) (hd : decode cc pc = .ok (i, len)) : mm_at sh d j LL P pc L st σ = mm_step sh (mm_run sh d) (mm_mt j).1 (mm_mt j).2.2.2.2.1 LL i len pc L st σ (mm_at sh d j LL P) P := by
  have e : mm_dec sh (mm_run sh d) (mm_mt j) LL pc L st σ (mm_wp sh (mm_run sh d) (mm_mt j) LL P) P = mm_step sh (mm_run sh d) (mm_mt j).1 (mm_mt j).2.2.2.2.1 LL i len pc L st σ (mm_at sh d j LL P) P := by
    unfold mm_dec
    rw [hc, hd]
    rfl
  rw [← e]
  exact propext ⟨mm_wp_unfold (mm_run_mono sh d), mm_wp_fold (mm_run_mono sh d)⟩
