/-! an abstract machine over numbered cells; its rows are tied to the machine in the next part -/
abbrev AH : Type := Nat × Nat × (Nat → Nat × Nat) × (Nat → Nat → Int32) × (Nat → Nat → Int64) × (Nat → Nat → Option Nat)
abbrev AH.n (h : AH) : Nat := h.1
abbrev AH.sl (h : AH) : Nat := h.2.1
abbrev AH.sh (h : AH) : Nat → Nat × Nat := h.2.2.1
abbrev AH.I (h : AH) : Nat → Nat → Int32 := h.2.2.2.1
abbrev AH.L (h : AH) : Nat → Nat → Int64 := h.2.2.2.2.1
abbrev AH.R (h : AH) : Nat → Nat → Option Nat := h.2.2.2.2.2
abbrev AH.wI (h : AH) (a : Nat) (f : Nat → Int32) : AH := (h.n, h.sl, h.sh, va_up h.I a f, h.L, h.R)
abbrev AH.wL (h : AH) (a : Nat) (f : Nat → Int64) : AH := (h.n, h.sl, h.sh, h.I, va_up h.L a f, h.R)
abbrev AH.wR (h : AH) (a : Nat) (f : Nat → Option Nat) : AH := (h.n, h.sl, h.sh, h.I, h.L, va_up h.R a f)
abbrev AH.push (h : AH) (q : Nat × Nat) : AH := (h.n + 1, h.sl + q.2, va_up h.sh h.n q, va_up h.I h.n (fun _ => 0), va_up h.L h.n (fun _ => 0), va_up h.R h.n (fun _ => none))
/-- reading by emb; writing rows of ints, of longs, of references; making a cell -/
abbrev Ops (σ : Type) : Type := (σ → AH) × (σ → Nat → (Nat → Int32) → σ) × (σ → Nat → (Nat → Int64) → σ) × (σ → Nat → Nat → Nat → Option σ) × (σ → Nat × Nat → Option σ)
abbrev Ops.emb {σ : Type} (O : Ops σ) : σ → AH := O.1
abbrev Ops.wI {σ : Type} (O : Ops σ) : σ → Nat → (Nat → Int32) → σ := O.2.1
abbrev Ops.wL {σ : Type} (O : Ops σ) : σ → Nat → (Nat → Int64) → σ := O.2.2.1
abbrev Ops.wR {σ : Type} (O : Ops σ) : σ → Nat → Nat → Nat → Option σ := O.2.2.2.1
abbrev Ops.al {σ : Type} (O : Ops σ) : σ → Nat × Nat → Option σ := O.2.2.2.2
abbrev Lcs : Type := List (Option Value)
abbrev Kn (σ ρ : Type) : Type := Nat → Lcs → List Value → σ → Option ρ
abbrev Ins (σ : Type) : Type 1 := (ρ : Type) → (Option Value → σ → Option ρ) → Nat → Lcs → List Value → σ → Kn σ ρ → Option ρ
abbrev Cal (σ : Type) : Type 1 := (ρ : Type) → Nat → List Value → σ → (Option Value → σ → Option ρ) → Option ρ
def nlt (a b : Nat) : Bool := Nat.ble (a + 1) b
def tlook {α : Type 1} (pc : Nat) : List (Nat × α) → Option α
  | [] => none
  | q :: r => bif Nat.beq pc q.1 then some q.2 else tlook pc r
def cutIn (pc : Nat) : List Nat → Bool
  | [] => false
  | q :: r => bif Nat.beq pc q then true else cutIn pc r
def ex {σ ρ : Type} (tab : List (Nat × Ins σ)) (ret : Option Value → σ → Option ρ) (cut : List Nat) (κ : Kn σ ρ) : Nat → Kn σ ρ
  | 0 => fun _ _ _ _ => none
  | n + 1 => fun pc ls st s => match tlook pc tab with
    | none => none
    | some ins => ins ρ ret pc ls st s (fun pc' ls' st' s' => bif cutIn pc' cut then κ pc' ls' st' s' else ex tab ret cut κ n pc' ls' st' s')
def inb0 (i : Int32) (n : Nat) : Bool := !(decide (i < 0)) && nlt i.toNatClampNeg n
theorem inb_ex : ∃ f : Int32 → Nat → Bool, f = inb0 := ⟨_, rfl⟩
/-- an index within; not to be unfolded by the way -/
noncomputable def inb : Int32 → Nat → Bool := Classical.choose inb_ex
theorem inb_eq : inb = inb0 := Classical.choose_spec inb_ex
def gd {ρ : Type} (b : Bool) (x : Option ρ) : Option ρ := bif b then x else none
def isLg : Option (Option Value) → Bool
  | some (some v) => Nat.beq v.category 2
  | _ => false
def st0 (ls : Lcs) (i : Nat) : Lcs := match i with
  | 0 => ls
  | j + 1 => bif isLg ls[j]? then ls.set j none else ls
def st1 (ls : Lcs) (i : Nat) (v : Value) : Lcs := (st0 ls i).set i (some v)
def st2 (ls : Lcs) (i : Nat) (v : Value) : Lcs := ((st0 ls i).set i (some v)).set (i + 1) none
/-! arithmetic, not to be unfolded by the way -/
theorem aAdd_ex : ∃ f : Int32 → Int32 → Int32, f = fun (x : Int32) (y : Int32) => x + y := ⟨_, rfl⟩
noncomputable def aAdd : Int32 → Int32 → Int32 := Classical.choose aAdd_ex
theorem aAdd_eq (x : Int32) (y : Int32) : aAdd x y = x + y := by unfold aAdd; rw [Classical.choose_spec aAdd_ex]
theorem aSub_ex : ∃ f : Int32 → Int32 → Int32, f = fun (x : Int32) (y : Int32) => x - y := ⟨_, rfl⟩
noncomputable def aSub : Int32 → Int32 → Int32 := Classical.choose aSub_ex
theorem aSub_eq (x : Int32) (y : Int32) : aSub x y = x - y := by unfold aSub; rw [Classical.choose_spec aSub_ex]
theorem aMul_ex : ∃ f : Int32 → Int32 → Int32, f = fun (x : Int32) (y : Int32) => x * y := ⟨_, rfl⟩
noncomputable def aMul : Int32 → Int32 → Int32 := Classical.choose aMul_ex
theorem aMul_eq (x : Int32) (y : Int32) : aMul x y = x * y := by unfold aMul; rw [Classical.choose_spec aMul_ex]
theorem aAnd_ex : ∃ f : Int32 → Int32 → Int32, f = fun (x : Int32) (y : Int32) => x &&& y := ⟨_, rfl⟩
noncomputable def aAnd : Int32 → Int32 → Int32 := Classical.choose aAnd_ex
theorem aAnd_eq (x : Int32) (y : Int32) : aAnd x y = x &&& y := by unfold aAnd; rw [Classical.choose_spec aAnd_ex]
theorem aOr_ex : ∃ f : Int32 → Int32 → Int32, f = fun (x : Int32) (y : Int32) => x ||| y := ⟨_, rfl⟩
noncomputable def aOr : Int32 → Int32 → Int32 := Classical.choose aOr_ex
theorem aOr_eq (x : Int32) (y : Int32) : aOr x y = x ||| y := by unfold aOr; rw [Classical.choose_spec aOr_ex]
theorem aXor_ex : ∃ f : Int32 → Int32 → Int32, f = fun (x : Int32) (y : Int32) => x ^^^ y := ⟨_, rfl⟩
noncomputable def aXor : Int32 → Int32 → Int32 := Classical.choose aXor_ex
theorem aXor_eq (x : Int32) (y : Int32) : aXor x y = x ^^^ y := by unfold aXor; rw [Classical.choose_spec aXor_ex]
theorem aShl_ex : ∃ f : Int32 → Int32 → Int32, f = fun (x : Int32) (y : Int32) => x <<< (y &&& 31) := ⟨_, rfl⟩
noncomputable def aShl : Int32 → Int32 → Int32 := Classical.choose aShl_ex
theorem aShl_eq (x : Int32) (y : Int32) : aShl x y = x <<< (y &&& 31) := by unfold aShl; rw [Classical.choose_spec aShl_ex]
theorem aShr_ex : ∃ f : Int32 → Int32 → Int32, f = fun (x : Int32) (y : Int32) => x >>> (y &&& 31) := ⟨_, rfl⟩
noncomputable def aShr : Int32 → Int32 → Int32 := Classical.choose aShr_ex
theorem aShr_eq (x : Int32) (y : Int32) : aShr x y = x >>> (y &&& 31) := by unfold aShr; rw [Classical.choose_spec aShr_ex]
theorem aUshr_ex : ∃ f : Int32 → Int32 → Int32, f = fun (x : Int32) (y : Int32) => (x.toUInt32 >>> (y.toUInt32 &&& Int32.toUInt32 31)).toInt32 := ⟨_, rfl⟩
noncomputable def aUshr : Int32 → Int32 → Int32 := Classical.choose aUshr_ex
theorem aUshr_eq (x : Int32) (y : Int32) : aUshr x y = (x.toUInt32 >>> (y.toUInt32 &&& Int32.toUInt32 31)).toInt32 := by unfold aUshr; rw [Classical.choose_spec aUshr_ex]
theorem aDiv_ex : ∃ f : Int32 → Int32 → Int32, f = fun (x : Int32) (y : Int32) => x / y := ⟨_, rfl⟩
noncomputable def aDiv : Int32 → Int32 → Int32 := Classical.choose aDiv_ex
theorem aDiv_eq (x : Int32) (y : Int32) : aDiv x y = x / y := by unfold aDiv; rw [Classical.choose_spec aDiv_ex]
theorem aRem_ex : ∃ f : Int32 → Int32 → Int32, f = fun (x : Int32) (y : Int32) => x - x / y * y := ⟨_, rfl⟩
noncomputable def aRem : Int32 → Int32 → Int32 := Classical.choose aRem_ex
theorem aRem_eq (x : Int32) (y : Int32) : aRem x y = x - x / y * y := by unfold aRem; rw [Classical.choose_spec aRem_ex]
theorem lAdd_ex : ∃ f : Int64 → Int64 → Int64, f = fun (x : Int64) (y : Int64) => x + y := ⟨_, rfl⟩
noncomputable def lAdd : Int64 → Int64 → Int64 := Classical.choose lAdd_ex
theorem lAdd_eq (x : Int64) (y : Int64) : lAdd x y = x + y := by unfold lAdd; rw [Classical.choose_spec lAdd_ex]
theorem lSub_ex : ∃ f : Int64 → Int64 → Int64, f = fun (x : Int64) (y : Int64) => x - y := ⟨_, rfl⟩
noncomputable def lSub : Int64 → Int64 → Int64 := Classical.choose lSub_ex
theorem lSub_eq (x : Int64) (y : Int64) : lSub x y = x - y := by unfold lSub; rw [Classical.choose_spec lSub_ex]
theorem lMul_ex : ∃ f : Int64 → Int64 → Int64, f = fun (x : Int64) (y : Int64) => x * y := ⟨_, rfl⟩
noncomputable def lMul : Int64 → Int64 → Int64 := Classical.choose lMul_ex
theorem lMul_eq (x : Int64) (y : Int64) : lMul x y = x * y := by unfold lMul; rw [Classical.choose_spec lMul_ex]
theorem lAnd_ex : ∃ f : Int64 → Int64 → Int64, f = fun (x : Int64) (y : Int64) => x &&& y := ⟨_, rfl⟩
noncomputable def lAnd : Int64 → Int64 → Int64 := Classical.choose lAnd_ex
theorem lAnd_eq (x : Int64) (y : Int64) : lAnd x y = x &&& y := by unfold lAnd; rw [Classical.choose_spec lAnd_ex]
theorem lOr_ex : ∃ f : Int64 → Int64 → Int64, f = fun (x : Int64) (y : Int64) => x ||| y := ⟨_, rfl⟩
noncomputable def lOr : Int64 → Int64 → Int64 := Classical.choose lOr_ex
theorem lOr_eq (x : Int64) (y : Int64) : lOr x y = x ||| y := by unfold lOr; rw [Classical.choose_spec lOr_ex]
theorem lDiv_ex : ∃ f : Int64 → Int64 → Int64, f = fun (x : Int64) (y : Int64) => x / y := ⟨_, rfl⟩
noncomputable def lDiv : Int64 → Int64 → Int64 := Classical.choose lDiv_ex
theorem lDiv_eq (x : Int64) (y : Int64) : lDiv x y = x / y := by unfold lDiv; rw [Classical.choose_spec lDiv_ex]
theorem lRem_ex : ∃ f : Int64 → Int64 → Int64, f = fun (x : Int64) (y : Int64) => x - x / y * y := ⟨_, rfl⟩
noncomputable def lRem : Int64 → Int64 → Int64 := Classical.choose lRem_ex
theorem lRem_eq (x : Int64) (y : Int64) : lRem x y = x - x / y * y := by unfold lRem; rw [Classical.choose_spec lRem_ex]
theorem lShl_ex : ∃ f : Int64 → Int32 → Int64, f = fun (x : Int64) (y : Int32) => x <<< (y.toInt64 &&& 63) := ⟨_, rfl⟩
noncomputable def lShl : Int64 → Int32 → Int64 := Classical.choose lShl_ex
theorem lShl_eq (x : Int64) (y : Int32) : lShl x y = x <<< (y.toInt64 &&& 63) := by unfold lShl; rw [Classical.choose_spec lShl_ex]
theorem aNeg_ex : ∃ f : Int32 → Int32, f = fun (x : Int32) => -x := ⟨_, rfl⟩
noncomputable def aNeg : Int32 → Int32 := Classical.choose aNeg_ex
theorem aNeg_eq (x : Int32) : aNeg x = -x := by unfold aNeg; rw [Classical.choose_spec aNeg_ex]
theorem aB_ex : ∃ f : Int32 → Int32, f = fun (x : Int32) => x.toInt8.toInt32 := ⟨_, rfl⟩
noncomputable def aB : Int32 → Int32 := Classical.choose aB_ex
theorem aB_eq (x : Int32) : aB x = x.toInt8.toInt32 := by unfold aB; rw [Classical.choose_spec aB_ex]
theorem aS_ex : ∃ f : Int32 → Int32, f = fun (x : Int32) => x.toInt16.toInt32 := ⟨_, rfl⟩
noncomputable def aS : Int32 → Int32 := Classical.choose aS_ex
theorem aS_eq (x : Int32) : aS x = x.toInt16.toInt32 := by unfold aS; rw [Classical.choose_spec aS_ex]
theorem aC_ex : ∃ f : Int32 → Int32, f = fun (x : Int32) => (x.toUInt32 % 65536).toInt32 := ⟨_, rfl⟩
noncomputable def aC : Int32 → Int32 := Classical.choose aC_ex
theorem aC_eq (x : Int32) : aC x = (x.toUInt32 % 65536).toInt32 := by unfold aC; rw [Classical.choose_spec aC_ex]
theorem aI2L_ex : ∃ f : Int32 → Int64, f = fun (x : Int32) => x.toInt64 := ⟨_, rfl⟩
noncomputable def aI2L : Int32 → Int64 := Classical.choose aI2L_ex
theorem aI2L_eq (x : Int32) : aI2L x = x.toInt64 := by unfold aI2L; rw [Classical.choose_spec aI2L_ex]
theorem aL2I_ex : ∃ f : Int64 → Int32, f = fun (x : Int64) => x.toInt32 := ⟨_, rfl⟩
noncomputable def aL2I : Int64 → Int32 := Classical.choose aL2I_ex
theorem aL2I_eq (x : Int64) : aL2I x = x.toInt32 := by unfold aL2I; rw [Classical.choose_spec aL2I_ex]
theorem lCmp_ex : ∃ f : Int64 → Int64 → Int32, f = fun (x : Int64) (y : Int64) => lg_cmp x y := ⟨_, rfl⟩
noncomputable def lCmp : Int64 → Int64 → Int32 := Classical.choose lCmp_ex
theorem lCmp_eq (x : Int64) (y : Int64) : lCmp x y = lg_cmp x y := by unfold lCmp; rw [Classical.choose_spec lCmp_ex]
section EV
variable {σ : Type}
-- constants, locals, the stack
def e_iconst (v : Int32) (nx : Nat) : Ins σ := fun _ _ _ ls st s k => k nx ls (.int v :: st) s
def e_lconst (v : Int64) (nx : Nat) : Ins σ := fun _ _ _ ls st s k => k nx ls (.long v :: st) s
def e_null (nx : Nat) : Ins σ := fun _ _ _ ls st s k => k nx ls (.null :: st) s
def e_iload (i nx : Nat) : Ins σ := fun _ _ _ ls st s k => match ls[i]? with
  | some (some (.int x)) => k nx ls (.int x :: st) s
  | _ => none
def e_lload (i nx : Nat) : Ins σ := fun _ _ _ ls st s k => match ls[i]? with
  | some (some (.long x)) => k nx ls (.long x :: st) s
  | _ => none
def e_aload (i nx : Nat) : Ins σ := fun _ _ _ ls st s k => match ls[i]? with
  | some (some (.ref x)) => k nx ls (.ref x :: st) s
  | some (some .null) => k nx ls (.null :: st) s
  | _ => none
def e_istore (i nx : Nat) : Ins σ := fun _ _ _ ls st s k => match st with
  | .int x :: r => gd (nlt i ls.length) (k nx (st1 ls i (.int x)) r s)
  | _ => none
def e_lstore (i nx : Nat) : Ins σ := fun _ _ _ ls st s k => match st with
  | .long x :: r => gd (nlt (i + 1) ls.length) (k nx (st2 ls i (.long x)) r s)
  | _ => none
def e_astore (i nx : Nat) : Ins σ := fun _ _ _ ls st s k => match st with
  | .ref x :: r => gd (nlt i ls.length) (k nx (st1 ls i (.ref x)) r s)
  | .null :: r => gd (nlt i ls.length) (k nx (st1 ls i .null) r s)
  | _ => none
noncomputable def e_iinc (i : Nat) (d : Int32) (nx : Nat) : Ins σ := fun _ _ _ ls st s k => match ls[i]? with
  | some (some (.int x)) => gd (nlt i ls.length) (k nx (st1 ls i (.int (aAdd x d))) st s)
  | _ => none
def e_dup (nx : Nat) : Ins σ := fun _ _ _ ls st s k => match st with
  | .int x :: r => k nx ls (.int x :: .int x :: r) s
  | .ref x :: r => k nx ls (.ref x :: .ref x :: r) s
  | .null :: r => k nx ls (.null :: .null :: r) s
  | _ => none
def e_dup2 (nx : Nat) : Ins σ := fun _ _ _ ls st s k => match st with
  | .int i :: .ref a :: r => k nx ls (.int i :: .ref a :: .int i :: .ref a :: r) s
  | _ => none
def e_pop (nx : Nat) : Ins σ := fun _ _ _ ls st s k => match st with
  | .int _ :: r => k nx ls r s
  | .ref _ :: r => k nx ls r s
  | .null :: r => k nx ls r s
  | _ => none
-- arithmetic
def e_bin (f : Int32 → Int32 → Int32) (nx : Nat) : Ins σ := fun _ _ _ ls st s k => match st with
  | .int y :: .int x :: r => k nx ls (.int (f x y) :: r) s
  | _ => none
def e_div (f : Int32 → Int32 → Int32) (nx : Nat) : Ins σ := fun _ _ _ ls st s k => match st with
  | .int y :: .int x :: r => if y = 0 then none else k nx ls (.int (f x y) :: r) s
  | _ => none
def e_un (f : Int32 → Int32) (nx : Nat) : Ins σ := fun _ _ _ ls st s k => match st with
  | .int x :: r => k nx ls (.int (f x) :: r) s
  | _ => none
def e_lbin (f : Int64 → Int64 → Int64) (nx : Nat) : Ins σ := fun _ _ _ ls st s k => match st with
  | .long y :: .long x :: r => k nx ls (.long (f x y) :: r) s
  | _ => none
def e_ldiv (f : Int64 → Int64 → Int64) (nx : Nat) : Ins σ := fun _ _ _ ls st s k => match st with
  | .long y :: .long x :: r => if y = 0 then none else k nx ls (.long (f x y) :: r) s
  | _ => none
def e_lsh (f : Int64 → Int32 → Int64) (nx : Nat) : Ins σ := fun _ _ _ ls st s k => match st with
  | .int y :: .long x :: r => k nx ls (.long (f x y) :: r) s
  | _ => none
noncomputable def e_lcmp (nx : Nat) : Ins σ := fun _ _ _ ls st s k => match st with
  | .long y :: .long x :: r => k nx ls (.int (lCmp x y) :: r) s
  | _ => none
noncomputable def e_i2l (nx : Nat) : Ins σ := fun _ _ _ ls st s k => match st with
  | .int x :: r => k nx ls (.long (aI2L x) :: r) s
  | _ => none
noncomputable def e_l2i (nx : Nat) : Ins σ := fun _ _ _ ls st s k => match st with
  | .long x :: r => k nx ls (.int (aL2I x) :: r) s
  | _ => none
-- branches
def e_if (f : Int32 → Bool) (tgt nx : Nat) : Ins σ := fun _ _ _ ls st s k => match st with
  | .int x :: r => bif f x then k tgt ls r s else k nx ls r s
  | _ => none
def e_iflt (tgt nx : Nat) : Ins σ := fun _ _ _ ls st s k => match st with
  | .int x :: r => if x < 0 then k tgt ls r s else k nx ls r s
  | _ => none
def e_ifge (tgt nx : Nat) : Ins σ := fun _ _ _ ls st s k => match st with
  | .int x :: r => if x < 0 then k nx ls r s else k tgt ls r s
  | _ => none
def e_ifgt (tgt nx : Nat) : Ins σ := fun _ _ _ ls st s k => match st with
  | .int x :: r => if 0 < x then k tgt ls r s else k nx ls r s
  | _ => none
def e_ifle (tgt nx : Nat) : Ins σ := fun _ _ _ ls st s k => match st with
  | .int x :: r => if 0 < x then k nx ls r s else k tgt ls r s
  | _ => none
def e_ifeq (tgt nx : Nat) : Ins σ := fun _ _ _ ls st s k => match st with
  | .int x :: r => if x = 0 then k tgt ls r s else k nx ls r s
  | _ => none
def e_ifne (tgt nx : Nat) : Ins σ := fun _ _ _ ls st s k => match st with
  | .int x :: r => if x = 0 then k nx ls r s else k tgt ls r s
  | _ => none
def e_clt (tgt nx : Nat) : Ins σ := fun _ _ _ ls st s k => match st with
  | .int y :: .int x :: r => if x < y then k tgt ls r s else k nx ls r s
  | _ => none
def e_cge (tgt nx : Nat) : Ins σ := fun _ _ _ ls st s k => match st with
  | .int y :: .int x :: r => if x < y then k nx ls r s else k tgt ls r s
  | _ => none
def e_cgt (tgt nx : Nat) : Ins σ := fun _ _ _ ls st s k => match st with
  | .int y :: .int x :: r => if y < x then k tgt ls r s else k nx ls r s
  | _ => none
def e_cle (tgt nx : Nat) : Ins σ := fun _ _ _ ls st s k => match st with
  | .int y :: .int x :: r => if y < x then k nx ls r s else k tgt ls r s
  | _ => none
def e_ceq (tgt nx : Nat) : Ins σ := fun _ _ _ ls st s k => match st with
  | .int y :: .int x :: r => if x = y then k tgt ls r s else k nx ls r s
  | _ => none
def e_cne (tgt nx : Nat) : Ins σ := fun _ _ _ ls st s k => match st with
  | .int y :: .int x :: r => if x = y then k nx ls r s else k tgt ls r s
  | _ => none
def e_goto (tgt : Nat) : Ins σ := fun _ _ _ ls st s k => k tgt ls st s
def e_ifnull (tgt nx : Nat) : Ins σ := fun _ _ _ ls st s k => match st with
  | .null :: r => k tgt ls r s
  | .ref _ :: r => k nx ls r s
  | _ => none
def swt {ρ : Type} (x : Int32) (d : Nat) (k : Nat → Option ρ) : List (Int32 × Nat) → Option ρ
  | [] => k d
  | q :: r => if x = q.1 then k q.2 else swt x d k r
def e_sw (cs : List (Int32 × Nat)) (d : Nat) : Ins σ := fun _ _ _ ls st s k => match st with
  | .int x :: r => swt x d (fun pc => k pc ls r s) cs
  | _ => none
-- fields, rows
def isK (h : AH) (a ci : Nat) : Bool := nlt a h.n && Nat.beq (h.sh a).1 ci
def isF (h : AH) (a ci kf : Nat) : Bool := isK h a ci && nlt kf (h.sh a).2
def e_getI (O : Ops σ) (ci kf nx : Nat) : Ins σ := fun _ _ _ ls st s k => match st with
  | .ref a :: r => gd (isF (O.emb s) a ci kf) (k nx ls (.int ((O.emb s).I a kf) :: r) s)
  | _ => none
def e_getL (O : Ops σ) (ci kf nx : Nat) : Ins σ := fun _ _ _ ls st s k => match st with
  | .ref a :: r => gd (isF (O.emb s) a ci kf) (k nx ls (.long ((O.emb s).L a kf) :: r) s)
  | _ => none
def e_getR (O : Ops σ) (ci kf nx : Nat) : Ins σ := fun _ _ _ ls st s k => match st with
  | .ref a :: r => gd (isF (O.emb s) a ci kf) (k nx ls (va_rf ((O.emb s).R a kf) :: r) s)
  | _ => none
def e_putI (O : Ops σ) (ci kf nx : Nat) : Ins σ := fun _ _ _ ls st s k => match st with
  | .int v :: .ref a :: r => gd (isF (O.emb s) a ci kf) (k nx ls r (O.wI s a (va_up ((O.emb s).I a) kf v)))
  | _ => none
def e_putZ (O : Ops σ) (ci kf nx : Nat) : Ins σ := fun _ _ _ ls st s k => match st with
  | .int v :: .ref a :: r => gd (isF (O.emb s) a ci kf && (v == 0 || v == 1)) (k nx ls r (O.wI s a (va_up ((O.emb s).I a) kf v)))
  | _ => none
def e_putL (O : Ops σ) (ci kf nx : Nat) : Ins σ := fun _ _ _ ls st s k => match st with
  | .long v :: .ref a :: r => gd (isF (O.emb s) a ci kf) (k nx ls r (O.wL s a (va_up ((O.emb s).L a) kf v)))
  | _ => none
def e_putR (O : Ops σ) (ci kf nx : Nat) : Ins σ := fun _ _ _ ls st s k => match st with
  | .ref v :: .ref a :: r => gd (isF (O.emb s) a ci kf && nlt v (O.emb s).n) (match O.wR s a kf v with
    | some s' => k nx ls r s'
    | none => none)
  | _ => none
noncomputable def e_ald (O : Ops σ) (kd nx : Nat) : Ins σ := fun _ _ _ ls st s k => match st with
  | .int i :: .ref a :: r => gd (isK (O.emb s) a kd && inb i ((O.emb s).sh a).2) (k nx ls (.int ((O.emb s).I a i.toNatClampNeg) :: r) s)
  | _ => none
noncomputable def e_lald (O : Ops σ) (nx : Nat) : Ins σ := fun _ _ _ ls st s k => match st with
  | .int i :: .ref a :: r => gd (isK (O.emb s) a 101 && inb i ((O.emb s).sh a).2) (k nx ls (.long ((O.emb s).L a i.toNatClampNeg) :: r) s)
  | _ => none
noncomputable def e_aald (O : Ops σ) (kd nx : Nat) : Ins σ := fun _ _ _ ls st s k => match st with
  | .int i :: .ref a :: r => gd (isK (O.emb s) a kd && inb i ((O.emb s).sh a).2) (k nx ls (va_rf ((O.emb s).R a i.toNatClampNeg) :: r) s)
  | _ => none
noncomputable def e_ast (O : Ops σ) (kd : Nat) (f : Int32 → Int32) (nx : Nat) : Ins σ := fun _ _ _ ls st s k => match st with
  | .int v :: .int i :: .ref a :: r => gd (isK (O.emb s) a kd && inb i ((O.emb s).sh a).2) (k nx ls r (O.wI s a (va_up ((O.emb s).I a) i.toNatClampNeg (f v))))
  | _ => none
noncomputable def e_last (O : Ops σ) (nx : Nat) : Ins σ := fun _ _ _ ls st s k => match st with
  | .long v :: .int i :: .ref a :: r => gd (isK (O.emb s) a 101 && inb i ((O.emb s).sh a).2) (k nx ls r (O.wL s a (va_up ((O.emb s).L a) i.toNatClampNeg v)))
  | _ => none
noncomputable def e_aast (O : Ops σ) (kd ci nx : Nat) : Ins σ := fun _ _ _ ls st s k => match st with
  | .ref v :: .int i :: .ref a :: r => gd (isK (O.emb s) a kd && inb i ((O.emb s).sh a).2 && isK (O.emb s) v ci) (match O.wR s a i.toNatClampNeg v with
    | some s' => k nx ls r s'
    | none => none)
  | _ => none
def isA (h : AH) (a : Nat) : Bool := nlt a h.n && (Nat.ble 100 (h.sh a).1 && nlt (h.sh a).1 106)
def e_alen (O : Ops σ) (nx : Nat) : Ins σ := fun _ _ _ ls st s k => match st with
  | .ref a :: r => gd (isA (O.emb s) a) (k nx ls (.int (Int32.ofNat ((O.emb s).sh a).2) :: r) s)
  | _ => none
/-- a static row, by its number -/
def e_stat (j nx : Nat) : Ins σ := fun _ _ _ ls st s k => k nx ls (.ref (200 + j) :: st) s
noncomputable def e_aldX (j : Nat) (tb : List Int32) (nx : Nat) : Ins σ := fun _ _ _ ls st s k => match st with
  | .int i :: .ref a :: r => gd (Nat.beq a (200 + j) && inb i tb.length) (k nx ls (.int (tb.getD i.toNatClampNeg 0) :: r) s)
  | _ => none
-- copying
def cpin (sp n : Int32) (N : Nat) : Bool := !(decide (sp < 0)) && Nat.ble (sp.toNatClampNeg + n.toNatClampNeg) N
def e_copyI (O : Ops σ) (nx : Nat) : Ins σ := fun _ _ _ ls st s k => match st with
  | .int n :: .int dp :: .ref b :: .int sp :: .ref a :: r => gd (isK (O.emb s) a 100 && isK (O.emb s) b 100 && !(decide (n < 0)) && cpin sp n ((O.emb s).sh a).2 && cpin dp n ((O.emb s).sh b).2 && Nat.ble (r.map fun v => v.category).sum 8) (k nx ls r (O.wI s b (va_cpy ((O.emb s).I a) ((O.emb s).I b) sp.toNatClampNeg dp.toNatClampNeg n.toNatClampNeg)))
  | _ => none
def e_copyL (O : Ops σ) (nx : Nat) : Ins σ := fun _ _ _ ls st s k => match st with
  | .int n :: .int dp :: .ref b :: .int sp :: .ref a :: r => gd (isK (O.emb s) a 101 && isK (O.emb s) b 101 && !(decide (n < 0)) && cpin sp n ((O.emb s).sh a).2 && cpin dp n ((O.emb s).sh b).2 && Nat.ble (r.map fun v => v.category).sum 8) (k nx ls r (O.wL s b (va_cpy ((O.emb s).L a) ((O.emb s).L b) sp.toNatClampNeg dp.toNatClampNeg n.toNatClampNeg)))
  | _ => none
-- making: no value names a cell that is to come
def fre (n n' : Nat) : Value → Bool
  | .ref b => nlt b n || Nat.ble n' b
  | _ => true
def freL (n n' : Nat) (ls : Lcs) : Bool := ls.all fun q => match q with
  | some v => fre n n' v
  | none => true
def e_new (O : Ops σ) (ci nf nx : Nat) : Ins σ := fun _ _ _ ls st s k => gd (st.all (fre (O.emb s).n ((O.emb s).n + 1)) && freL (O.emb s).n ((O.emb s).n + 1) ls) (match O.al s (ci, nf) with
  | some s' => k nx ls (.ref (O.emb s).n :: st) s'
  | none => none)
def e_newa (O : Ops σ) (kd nx : Nat) : Ins σ := fun _ _ _ ls st s k => match st with
  | .int n :: r => gd (!(decide (n < 0)) && Nat.ble n.toNatClampNeg 100000 && (r.all (fre (O.emb s).n ((O.emb s).n + 1)) && freL (O.emb s).n ((O.emb s).n + 1) ls)) (match O.al s (kd, n.toNatClampNeg) with
    | some s' => k nx ls (.ref (O.emb s).n :: r) s'
    | none => none)
  | _ => none
/-- invokespecial of a constructor that makes cells -/
def e_callG (O : Ops σ) (cal : Cal σ) (y na ci nx : Nat) : Ins σ := fun ρ _ _ ls st s k => match st.drop na with
  | .ref b :: r => gd (Nat.beq (st.take na).length na && Nat.ble (r.map fun v => v.category).sum 8 && isK (O.emb s) b ci) (cal ρ y (.ref b :: (st.take na).reverse) s (fun rv s' => match rv with
    | none => gd (r.all (fre (O.emb s).n (O.emb s').n) && freL (O.emb s).n (O.emb s').n ls) (k nx ls r s')
    | some _ => none))
  | _ => none
-- calls
/-- invokestatic -/
def e_callS (cal : Cal σ) (y na nx : Nat) : Ins σ := fun ρ _ _ ls st s k => gd (Nat.beq (st.take na).length na && Nat.ble ((st.drop na).map fun v => v.category).sum 8) (cal ρ y (st.take na).reverse s (fun rv s' => k nx ls (rv.toList ++ st.drop na) s'))
/-- invokevirtual, invokespecial: the receiver is of class ci -/
def e_callV (O : Ops σ) (cal : Cal σ) (y na ci nx : Nat) : Ins σ := fun ρ _ _ ls st s k => match st.drop na with
  | .ref b :: r => gd (Nat.beq (st.take na).length na && Nat.ble (r.map fun v => v.category).sum 8 && isK (O.emb s) b ci) (cal ρ y (.ref b :: (st.take na).reverse) s (fun rv s' => k nx ls (rv.toList ++ r) s'))
  | _ => none
-- Object.<init>
def e_obj (nx : Nat) : Ins σ := fun _ _ _ ls st s k => match st with
  | .ref _ :: r => gd (Nat.ble (r.map fun v => v.category).sum 8) (k nx ls r s)
  | _ => none
-- returns
def e_iret : Ins σ := fun _ ret _ _ st s _ => match st with
  | [.int v] => ret (some (.int v)) s
  | _ => none
def e_zret : Ins σ := fun _ ret _ _ st s _ => match st with
  | [.int v] => gd (v == 0 || v == 1) (ret (some (.int v)) s)
  | _ => none
def e_lret : Ins σ := fun _ ret _ _ st s _ => match st with
  | [.long v] => ret (some (.long v)) s
  | _ => none
def e_aret : Ins σ := fun _ ret _ _ st s _ => match st with
  | [.ref a] => ret (some (.ref a)) s
  | _ => none
def e_vret : Ins σ := fun _ ret _ _ st s _ => match st with
  | [] => ret none s
  | _ => none
end EV
