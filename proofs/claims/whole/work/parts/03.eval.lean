/-! an abstract machine over numbered cells; its rows are tied to the machine in the next part -/
abbrev AH : Type := Nat × Nat × (Nat → Nat × Nat) × (Nat → Nat → Int32) × (Nat → Nat → Int64) × (Nat → Nat → Option Nat)
abbrev AH.n (h : AH) : Nat := h.1
abbrev AH.sl (h : AH) : Nat := h.2.1
abbrev AH.sh (h : AH) : Nat → Nat × Nat := h.2.2.1
abbrev AH.I (h : AH) : Nat → Nat → Int32 := h.2.2.2.1
abbrev AH.L (h : AH) : Nat → Nat → Int64 := h.2.2.2.2.1
abbrev AH.R (h : AH) : Nat → Nat → Option Nat := h.2.2.2.2.2
abbrev AH.wI (h : AH) (a : Nat) (f : Nat → Int32) : AH := (h.n, h.sl, h.sh, va_up h.I a f, h.L, h.R)
abbrev AH.wL (h : AH) (a : Nat) (f : Nat → Int64) : AH := (h.n, h.sl, h.sh, h.I, va_up h.L a f, h.R)
abbrev AH.wR (h : AH) (a : Nat) (f : Nat → Option Nat) : AH := (h.n, h.sl, h.sh, h.I, h.L, va_up h.R a f)
abbrev AH.push (h : AH) (q : Nat × Nat) : AH := (h.n + 1, h.sl + q.2, va_up h.sh h.n q, va_up h.I h.n (fun _ => 0), va_up h.L h.n (fun _ => 0), va_up h.R h.n (fun _ => none))
/-- reading by emb; writing rows of ints, of longs, of references; making a cell -/
abbrev Ops (σ : Type) : Type := (σ → AH) × (σ → Nat → (Nat → Int32) → σ) × (σ → Nat → (Nat → Int64) → σ) × (σ → Nat → Nat → Nat → Option σ) × (σ → Nat × Nat → Option σ)
abbrev Ops.emb {σ : Type} (O : Ops σ) : σ → AH := O.1
abbrev Ops.wI {σ : Type} (O : Ops σ) : σ → Nat → (Nat → Int32) → σ := O.2.1
abbrev Ops.wL {σ : Type} (O : Ops σ) : σ → Nat → (Nat → Int64) → σ := O.2.2.1
abbrev Ops.wR {σ : Type} (O : Ops σ) : σ → Nat → Nat → Nat → Option σ := O.2.2.2.1
abbrev Ops.al {σ : Type} (O : Ops σ) : σ → Nat × Nat → Option σ := O.2.2.2.2
abbrev Lcs : Type := List (Option Value)
abbrev Kn (σ ρ : Type) : Type := Nat → Lcs → List Value → σ → Option ρ
abbrev Ins (σ : Type) : Type 1 := (ρ : Type) → (Option Value → σ → Option ρ) → Nat → Lcs → List Value → σ → Kn σ ρ → Option ρ
abbrev Cal (σ : Type) : Type 1 := (ρ : Type) → Nat → List Value → σ → (Option Value → σ → Option ρ) → Option ρ
def tlook {α : Type 1} (pc : Nat) : List (Nat × α) → Option α
  | [] => none
  | q :: r => bif Nat.beq pc q.1 then some q.2 else tlook pc r
def cutIn (pc : Nat) : List Nat → Bool
  | [] => false
  | q :: r => bif Nat.beq pc q then true else cutIn pc r
def ex {σ ρ : Type} (tab : List (Nat × Ins σ)) (ret : Option Value → σ → Option ρ) (cut : List Nat) (κ : Kn σ ρ) : Nat → Kn σ ρ
  | 0 => fun _ _ _ _ => none
  | n + 1 => fun pc ls st s => match tlook pc tab with
    | none => none
    | some ins => ins ρ ret pc ls st s (fun pc' ls' st' s' => bif cutIn pc' cut then κ pc' ls' st' s' else ex tab ret cut κ n pc' ls' st' s')
def inb (i : Int32) (n : Nat) : Bool := !(decide (i < 0)) && Nat.blt i.toNatClampNeg n
def gd {ρ : Type} (b : Bool) (x : Option ρ) : Option ρ := bif b then x else none
def isLg : Option (Option Value) → Bool
  | some (some v) => Nat.beq v.category 2
  | _ => false
def st0 (ls : Lcs) (i : Nat) : Lcs := match i with
  | 0 => ls
  | j + 1 => bif isLg ls[j]? then ls.set j none else ls
def st1 (ls : Lcs) (i : Nat) (v : Value) : Lcs := (st0 ls i).set i (some v)
def st2 (ls : Lcs) (i : Nat) (v : Value) : Lcs := ((st0 ls i).set i (some v)).set (i + 1) none
section EV
variable {σ : Type}
-- constants, locals, the stack
def e_iconst (v : Int32) (nx : Nat) : Ins σ := fun _ _ _ ls st s k => k nx ls (.int v :: st) s
def e_lconst (v : Int64) (nx : Nat) : Ins σ := fun _ _ _ ls st s k => k nx ls (.long v :: st) s
def e_null (nx : Nat) : Ins σ := fun _ _ _ ls st s k => k nx ls (.null :: st) s
def e_iload (i nx : Nat) : Ins σ := fun _ _ _ ls st s k => match ls[i]? with
  | some (some (.int x)) => k nx ls (.int x :: st) s
  | _ => none
def e_lload (i nx : Nat) : Ins σ := fun _ _ _ ls st s k => match ls[i]? with
  | some (some (.long x)) => k nx ls (.long x :: st) s
  | _ => none
def e_aload (i nx : Nat) : Ins σ := fun _ _ _ ls st s k => match ls[i]? with
  | some (some (.ref x)) => k nx ls (.ref x :: st) s
  | some (some .null) => k nx ls (.null :: st) s
  | _ => none
def e_istore (i nx : Nat) : Ins σ := fun _ _ _ ls st s k => match st with
  | .int x :: r => gd (Nat.blt i ls.length) (k nx (st1 ls i (.int x)) r s)
  | _ => none
def e_lstore (i nx : Nat) : Ins σ := fun _ _ _ ls st s k => match st with
  | .long x :: r => gd (Nat.blt (i + 1) ls.length) (k nx (st2 ls i (.long x)) r s)
  | _ => none
def e_astore (i nx : Nat) : Ins σ := fun _ _ _ ls st s k => match st with
  | .ref x :: r => gd (Nat.blt i ls.length) (k nx (st1 ls i (.ref x)) r s)
  | .null :: r => gd (Nat.blt i ls.length) (k nx (st1 ls i .null) r s)
  | _ => none
def e_iinc (i : Nat) (d : Int32) (nx : Nat) : Ins σ := fun _ _ _ ls st s k => match ls[i]? with
  | some (some (.int x)) => gd (Nat.blt i ls.length) (k nx (st1 ls i (.int (x + d))) st s)
  | _ => none
def e_dup (nx : Nat) : Ins σ := fun _ _ _ ls st s k => match st with
  | .int x :: r => k nx ls (.int x :: .int x :: r) s
  | .ref x :: r => k nx ls (.ref x :: .ref x :: r) s
  | .null :: r => k nx ls (.null :: .null :: r) s
  | _ => none
def e_dup2 (nx : Nat) : Ins σ := fun _ _ _ ls st s k => match st with
  | .int i :: .ref a :: r => k nx ls (.int i :: .ref a :: .int i :: .ref a :: r) s
  | _ => none
def e_pop (nx : Nat) : Ins σ := fun _ _ _ ls st s k => match st with
  | .int _ :: r => k nx ls r s
  | .ref _ :: r => k nx ls r s
  | .null :: r => k nx ls r s
  | _ => none
-- arithmetic
def e_bin (f : Int32 → Int32 → Int32) (nx : Nat) : Ins σ := fun _ _ _ ls st s k => match st with
  | .int y :: .int x :: r => k nx ls (.int (f x y) :: r) s
  | _ => none
def e_div (f : Int32 → Int32 → Int32) (nx : Nat) : Ins σ := fun _ _ _ ls st s k => match st with
  | .int y :: .int x :: r => if y = 0 then none else k nx ls (.int (f x y) :: r) s
  | _ => none
def e_un (f : Int32 → Int32) (nx : Nat) : Ins σ := fun _ _ _ ls st s k => match st with
  | .int x :: r => k nx ls (.int (f x) :: r) s
  | _ => none
def e_lbin (f : Int64 → Int64 → Int64) (nx : Nat) : Ins σ := fun _ _ _ ls st s k => match st with
  | .long y :: .long x :: r => k nx ls (.long (f x y) :: r) s
  | _ => none
def e_ldiv (f : Int64 → Int64 → Int64) (nx : Nat) : Ins σ := fun _ _ _ ls st s k => match st with
  | .long y :: .long x :: r => if y = 0 then none else k nx ls (.long (f x y) :: r) s
  | _ => none
def e_lsh (f : Int64 → Int32 → Int64) (nx : Nat) : Ins σ := fun _ _ _ ls st s k => match st with
  | .int y :: .long x :: r => k nx ls (.long (f x y) :: r) s
  | _ => none
def e_lcmp (nx : Nat) : Ins σ := fun _ _ _ ls st s k => match st with
  | .long y :: .long x :: r => k nx ls (.int (lg_cmp x y) :: r) s
  | _ => none
def e_i2l (nx : Nat) : Ins σ := fun _ _ _ ls st s k => match st with
  | .int x :: r => k nx ls (.long x.toInt64 :: r) s
  | _ => none
def e_l2i (nx : Nat) : Ins σ := fun _ _ _ ls st s k => match st with
  | .long x :: r => k nx ls (.int x.toInt32 :: r) s
  | _ => none
-- branches
def e_if (f : Int32 → Bool) (tgt nx : Nat) : Ins σ := fun _ _ _ ls st s k => match st with
  | .int x :: r => bif f x then k tgt ls r s else k nx ls r s
  | _ => none
def e_iflt (tgt nx : Nat) : Ins σ := fun _ _ _ ls st s k => match st with
  | .int x :: r => if x < 0 then k tgt ls r s else k nx ls r s
  | _ => none
def e_ifge (tgt nx : Nat) : Ins σ := fun _ _ _ ls st s k => match st with
  | .int x :: r => if x < 0 then k nx ls r s else k tgt ls r s
  | _ => none
def e_ifgt (tgt nx : Nat) : Ins σ := fun _ _ _ ls st s k => match st with
  | .int x :: r => if 0 < x then k tgt ls r s else k nx ls r s
  | _ => none
def e_ifle (tgt nx : Nat) : Ins σ := fun _ _ _ ls st s k => match st with
  | .int x :: r => if 0 < x then k nx ls r s else k tgt ls r s
  | _ => none
def e_ifeq (tgt nx : Nat) : Ins σ := fun _ _ _ ls st s k => match st with
  | .int x :: r => if x = 0 then k tgt ls r s else k nx ls r s
  | _ => none
def e_ifne (tgt nx : Nat) : Ins σ := fun _ _ _ ls st s k => match st with
  | .int x :: r => if x = 0 then k nx ls r s else k tgt ls r s
  | _ => none
def e_clt (tgt nx : Nat) : Ins σ := fun _ _ _ ls st s k => match st with
  | .int y :: .int x :: r => if x < y then k tgt ls r s else k nx ls r s
  | _ => none
def e_cge (tgt nx : Nat) : Ins σ := fun _ _ _ ls st s k => match st with
  | .int y :: .int x :: r => if x < y then k nx ls r s else k tgt ls r s
  | _ => none
def e_cgt (tgt nx : Nat) : Ins σ := fun _ _ _ ls st s k => match st with
  | .int y :: .int x :: r => if y < x then k tgt ls r s else k nx ls r s
  | _ => none
def e_cle (tgt nx : Nat) : Ins σ := fun _ _ _ ls st s k => match st with
  | .int y :: .int x :: r => if y < x then k nx ls r s else k tgt ls r s
  | _ => none
def e_ceq (tgt nx : Nat) : Ins σ := fun _ _ _ ls st s k => match st with
  | .int y :: .int x :: r => if x = y then k tgt ls r s else k nx ls r s
  | _ => none
def e_cne (tgt nx : Nat) : Ins σ := fun _ _ _ ls st s k => match st with
  | .int y :: .int x :: r => if x = y then k nx ls r s else k tgt ls r s
  | _ => none
def e_goto (tgt : Nat) : Ins σ := fun _ _ _ ls st s k => k tgt ls st s
def e_ifnull (tgt nx : Nat) : Ins σ := fun _ _ _ ls st s k => match st with
  | .null :: r => k tgt ls r s
  | .ref _ :: r => k nx ls r s
  | _ => none
def swt {ρ : Type} (x : Int32) (d : Nat) (k : Nat → Option ρ) : List (Int32 × Nat) → Option ρ
  | [] => k d
  | q :: r => if x = q.1 then k q.2 else swt x d k r
def e_sw (cs : List (Int32 × Nat)) (d : Nat) : Ins σ := fun _ _ _ ls st s k => match st with
  | .int x :: r => swt x d (fun pc => k pc ls r s) cs
  | _ => none
-- fields, rows
def isK (h : AH) (a ci : Nat) : Bool := Nat.blt a h.n && Nat.beq (h.sh a).1 ci
def isF (h : AH) (a ci kf : Nat) : Bool := isK h a ci && Nat.blt kf (h.sh a).2
def e_getI (O : Ops σ) (ci kf nx : Nat) : Ins σ := fun _ _ _ ls st s k => match st with
  | .ref a :: r => gd (isF (O.emb s) a ci kf) (k nx ls (.int ((O.emb s).I a kf) :: r) s)
  | _ => none
def e_getL (O : Ops σ) (ci kf nx : Nat) : Ins σ := fun _ _ _ ls st s k => match st with
  | .ref a :: r => gd (isF (O.emb s) a ci kf) (k nx ls (.long ((O.emb s).L a kf) :: r) s)
  | _ => none
def e_getR (O : Ops σ) (ci kf nx : Nat) : Ins σ := fun _ _ _ ls st s k => match st with
  | .ref a :: r => gd (isF (O.emb s) a ci kf) (k nx ls (va_rf ((O.emb s).R a kf) :: r) s)
  | _ => none
def e_putI (O : Ops σ) (ci kf nx : Nat) : Ins σ := fun _ _ _ ls st s k => match st with
  | .int v :: .ref a :: r => gd (isF (O.emb s) a ci kf) (k nx ls r (O.wI s a (va_up ((O.emb s).I a) kf v)))
  | _ => none
def e_putZ (O : Ops σ) (ci kf nx : Nat) : Ins σ := fun _ _ _ ls st s k => match st with
  | .int v :: .ref a :: r => gd (isF (O.emb s) a ci kf && (v == 0 || v == 1)) (k nx ls r (O.wI s a (va_up ((O.emb s).I a) kf v)))
  | _ => none
def e_putL (O : Ops σ) (ci kf nx : Nat) : Ins σ := fun _ _ _ ls st s k => match st with
  | .long v :: .ref a :: r => gd (isF (O.emb s) a ci kf) (k nx ls r (O.wL s a (va_up ((O.emb s).L a) kf v)))
  | _ => none
def e_putR (O : Ops σ) (ci kf nx : Nat) : Ins σ := fun _ _ _ ls st s k => match st with
  | .ref v :: .ref a :: r => gd (isF (O.emb s) a ci kf && Nat.blt v (O.emb s).n) (match O.wR s a kf v with
    | some s' => k nx ls r s'
    | none => none)
  | _ => none
def e_ald (O : Ops σ) (kd nx : Nat) : Ins σ := fun _ _ _ ls st s k => match st with
  | .int i :: .ref a :: r => gd (isK (O.emb s) a kd && inb i ((O.emb s).sh a).2) (k nx ls (.int ((O.emb s).I a i.toNatClampNeg) :: r) s)
  | _ => none
def e_lald (O : Ops σ) (nx : Nat) : Ins σ := fun _ _ _ ls st s k => match st with
  | .int i :: .ref a :: r => gd (isK (O.emb s) a 101 && inb i ((O.emb s).sh a).2) (k nx ls (.long ((O.emb s).L a i.toNatClampNeg) :: r) s)
  | _ => none
def e_aald (O : Ops σ) (kd nx : Nat) : Ins σ := fun _ _ _ ls st s k => match st with
  | .int i :: .ref a :: r => gd (isK (O.emb s) a kd && inb i ((O.emb s).sh a).2) (k nx ls (va_rf ((O.emb s).R a i.toNatClampNeg) :: r) s)
  | _ => none
def e_ast (O : Ops σ) (kd : Nat) (f : Int32 → Int32) (nx : Nat) : Ins σ := fun _ _ _ ls st s k => match st with
  | .int v :: .int i :: .ref a :: r => gd (isK (O.emb s) a kd && inb i ((O.emb s).sh a).2) (k nx ls r (O.wI s a (va_up ((O.emb s).I a) i.toNatClampNeg (f v))))
  | _ => none
def e_last (O : Ops σ) (nx : Nat) : Ins σ := fun _ _ _ ls st s k => match st with
  | .long v :: .int i :: .ref a :: r => gd (isK (O.emb s) a 101 && inb i ((O.emb s).sh a).2) (k nx ls r (O.wL s a (va_up ((O.emb s).L a) i.toNatClampNeg v)))
  | _ => none
def e_aast (O : Ops σ) (kd ci nx : Nat) : Ins σ := fun _ _ _ ls st s k => match st with
  | .ref v :: .int i :: .ref a :: r => gd (isK (O.emb s) a kd && inb i ((O.emb s).sh a).2 && isK (O.emb s) v ci) (match O.wR s a i.toNatClampNeg v with
    | some s' => k nx ls r s'
    | none => none)
  | _ => none
def isA (h : AH) (a : Nat) : Bool := Nat.blt a h.n && (Nat.ble 100 (h.sh a).1 && Nat.blt (h.sh a).1 106)
def e_alen (O : Ops σ) (nx : Nat) : Ins σ := fun _ _ _ ls st s k => match st with
  | .ref a :: r => gd (isA (O.emb s) a) (k nx ls (.int (Int32.ofNat ((O.emb s).sh a).2) :: r) s)
  | _ => none
/-- a static row, by its number -/
def e_stat (j nx : Nat) : Ins σ := fun _ _ _ ls st s k => k nx ls (.ref (1000000 + j) :: st) s
def e_aldX (j : Nat) (tb : List Int32) (nx : Nat) : Ins σ := fun _ _ _ ls st s k => match st with
  | .int i :: .ref a :: r => gd (Nat.beq a (1000000 + j) && inb i tb.length) (k nx ls (.int (tb.getD i.toNatClampNeg 0) :: r) s)
  | _ => none
-- copying
def cpin (sp n : Int32) (N : Nat) : Bool := !(decide (sp < 0)) && Nat.ble (sp.toNatClampNeg + n.toNatClampNeg) N
def e_copyI (O : Ops σ) (nx : Nat) : Ins σ := fun _ _ _ ls st s k => match st with
  | .int n :: .int dp :: .ref b :: .int sp :: .ref a :: r => gd (isK (O.emb s) a 100 && isK (O.emb s) b 100 && !(decide (n < 0)) && cpin sp n ((O.emb s).sh a).2 && cpin dp n ((O.emb s).sh b).2 && Nat.ble (r.map fun v => v.category).sum 8) (k nx ls r (O.wI s b (va_cpy ((O.emb s).I a) ((O.emb s).I b) sp.toNatClampNeg dp.toNatClampNeg n.toNatClampNeg)))
  | _ => none
def e_copyL (O : Ops σ) (nx : Nat) : Ins σ := fun _ _ _ ls st s k => match st with
  | .int n :: .int dp :: .ref b :: .int sp :: .ref a :: r => gd (isK (O.emb s) a 101 && isK (O.emb s) b 101 && !(decide (n < 0)) && cpin sp n ((O.emb s).sh a).2 && cpin dp n ((O.emb s).sh b).2 && Nat.ble (r.map fun v => v.category).sum 8) (k nx ls r (O.wL s b (va_cpy ((O.emb s).L a) ((O.emb s).L b) sp.toNatClampNeg dp.toNatClampNeg n.toNatClampNeg)))
  | _ => none
-- making: no value names a cell that is to come
def fre (n n' : Nat) : Value → Bool
  | .ref b => Nat.blt b n || Nat.ble n' b
  | _ => true
def freL (n n' : Nat) (ls : Lcs) : Bool := ls.all fun q => match q with
  | some v => fre n n' v
  | none => true
def e_new (O : Ops σ) (ci nf nx : Nat) : Ins σ := fun _ _ _ ls st s k => gd (st.all (fre (O.emb s).n ((O.emb s).n + 1)) && freL (O.emb s).n ((O.emb s).n + 1) ls) (match O.al s (ci, nf) with
  | some s' => k nx ls (.ref (O.emb s).n :: st) s'
  | none => none)
def e_newa (O : Ops σ) (kd nx : Nat) : Ins σ := fun _ _ _ ls st s k => match st with
  | .int n :: r => gd (!(decide (n < 0)) && Nat.ble n.toNatClampNeg 100000 && (r.all (fre (O.emb s).n ((O.emb s).n + 1)) && freL (O.emb s).n ((O.emb s).n + 1) ls)) (match O.al s (kd, n.toNatClampNeg) with
    | some s' => k nx ls (.ref (O.emb s).n :: r) s'
    | none => none)
  | _ => none
/-- invokespecial of a constructor that makes cells -/
def e_callG (O : Ops σ) (cal : Cal σ) (y na ci nx : Nat) : Ins σ := fun ρ _ _ ls st s k => match st.drop na with
  | .ref b :: r => gd (Nat.beq (st.take na).length na && Nat.ble (r.map fun v => v.category).sum 8 && isK (O.emb s) b ci) (cal ρ y (.ref b :: (st.take na).reverse) s (fun rv s' => match rv with
    | none => gd (r.all (fre (O.emb s).n (O.emb s').n) && freL (O.emb s).n (O.emb s').n ls) (k nx ls r s')
    | some _ => none))
  | _ => none
-- calls
/-- invokestatic -/
def e_callS (cal : Cal σ) (y na nx : Nat) : Ins σ := fun ρ _ _ ls st s k => gd (Nat.beq (st.take na).length na && Nat.ble ((st.drop na).map fun v => v.category).sum 8) (cal ρ y (st.take na).reverse s (fun rv s' => k nx ls (rv.toList ++ st.drop na) s'))
/-- invokevirtual, invokespecial: the receiver is of class ci -/
def e_callV (O : Ops σ) (cal : Cal σ) (y na ci nx : Nat) : Ins σ := fun ρ _ _ ls st s k => match st.drop na with
  | .ref b :: r => gd (Nat.beq (st.take na).length na && Nat.ble (r.map fun v => v.category).sum 8 && isK (O.emb s) b ci) (cal ρ y (.ref b :: (st.take na).reverse) s (fun rv s' => k nx ls (rv.toList ++ r) s'))
  | _ => none
-- Object.<init>
def e_obj (nx : Nat) : Ins σ := fun _ _ _ ls st s k => match st with
  | .ref _ :: r => gd (Nat.ble (r.map fun v => v.category).sum 8) (k nx ls r s)
  | _ => none
-- returns
def e_iret : Ins σ := fun _ ret _ _ st s _ => match st with
  | [.int v] => ret (some (.int v)) s
  | _ => none
def e_zret : Ins σ := fun _ ret _ _ st s _ => match st with
  | [.int v] => gd (v == 0 || v == 1) (ret (some (.int v)) s)
  | _ => none
def e_lret : Ins σ := fun _ ret _ _ st s _ => match st with
  | [.long v] => ret (some (.long v)) s
  | _ => none
def e_aret : Ins σ := fun _ ret _ _ st s _ => match st with
  | [.ref a] => ret (some (.ref a)) s
  | _ => none
def e_vret : Ins σ := fun _ ret _ _ st s _ => match st with
  | [] => ret none s
  | _ => none
end EV
