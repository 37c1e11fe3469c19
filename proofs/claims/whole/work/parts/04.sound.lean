abbrev Gm : Type := (Nat → ClassId) × (Nat → Nat → Nat) × (Nat → ClassId) × (Nat → Nat)
abbrev Gm.D (G : Gm) : va_G := (G.1, G.2.1)
abbrev Gm.cy (G : Gm) : Nat → ClassId := G.2.2.1
abbrev Gm.ex (G : Gm) : Nat → Nat := G.2.2.2
def cv (ad : Nat → Nat) : Value → Value
  | .ref i => .ref (ad i)
  | v => v
def tyC (ci : Nat) : Nat → FieldType := match ci with
  | 0 => tyX0
  | 1 => tyX1
  | 2 => tyX2
  | 3 => tyX3
  | 4 => tyX4
  | 5 => tyX5
  | 6 => tyX6
  | 7 => tyX7
  | 8 => tyX8
  | 9 => tyX9
  | 10 => tyX10
  | 11 => tyX11
  | _ => tyX12
def fV (ad : Nat → Nat) (h : AH) (i : Nat) (ty : FieldType) (k : Nat) : Value := match ty with
  | .long => .long (h.L i k)
  | .object _ => va_rf ((h.R i k).map ad)
  | .array _ => va_rf ((h.R i k).map ad)
  | _ => .int (h.I i k)
def fsO (ad : Nat → Nat) (h : AH) (i : Nat) : List Value := (List.range (h.sh i).2).map (fun k => fV ad h i (tyC (h.sh i).1 k) k)
def cE (G : Gm) (ad : Nat → Nat) (h : AH) (i : Nat) : va_E := if (h.sh i).1 < 100 then .inr ((h.sh i).1, fsO ad h i)
  else .inl (G.cy ((h.sh i).1 - 100), (h.sh i).2, if (h.sh i).1 = 101 then .inr (.inl (h.L i)) else if 104 ≤ (h.sh i).1 then .inr (.inr (.inr (.inr (fun j => (h.R i j).map ad)))) else .inl (h.I i))
def wsA (G : Gm) (ad : Nat → Nat) (h : AH) : va_W := (List.range h.n).map (fun i => (ad i, cE G ad h i))
theorem wsA_get {G : Gm} {ad : Nat → Nat} {h : AH} {i : Nat} (hi : i < h.n) : (wsA G ad h)[i]? = some (ad i, cE G ad h i) := by
  unfold wsA
  rw [List.getElem?_map, List.getElem?_range hi]
  rfl
theorem wsA_len {G : Gm} {ad : Nat → Nat} {h : AH} : (wsA G ad h).length = h.n := by simp [wsA]
theorem wsA_set {G : Gm} {ad : Nat → Nat} {h h' : AH} {a : Nat} (hn : h'.n = h.n) (ho : ∀ i, i ≠ a → cE G ad h' i = cE G ad h i) {v : va_E} (hv : cE G ad h' a = v) : (wsA G ad h).set a (ad a, v) = wsA G ad h' := by
  subst hv
  refine List.ext_getElem? fun i => ?_
  by_cases hi : i < h.n
  · rw [wsA_get (by rw [hn]; exact hi)]
    by_cases hia : i = a
    · subst hia
      rw [List.getElem?_set_self (by rw [wsA_len]; exact hi)]
    · rw [List.getElem?_set_ne (Ne.symm hia), wsA_get hi, ho i hia]
  · rw [List.getElem?_eq_none (by rw [List.length_set, wsA_len]; omega), List.getElem?_eq_none (by rw [wsA_len, hn]; omega)]
theorem cE_obj {G : Gm} {ad : Nat → Nat} {h : AH} {i ci : Nat} (hc : (h.sh i).1 = ci) (h1 : ci < 100) : cE G ad h i = .inr (ci, fsO ad h i) := by
  subst hc
  unfold cE
  rw [if_pos h1]
theorem cE_int {G : Gm} {ad : Nat → Nat} {h : AH} {i kd : Nat} (hc : (h.sh i).1 = kd) (h1 : kd = 100 ∨ kd = 102 ∨ kd = 103) : cE G ad h i = .inl (G.cy (kd - 100), (h.sh i).2, .inl (h.I i)) := by
  subst hc
  unfold cE
  rw [if_neg (by omega), if_neg (by omega), if_neg (by omega)]
theorem cE_long {G : Gm} {ad : Nat → Nat} {h : AH} {i : Nat} (hc : (h.sh i).1 = 101) : cE G ad h i = .inl (G.cy 1, (h.sh i).2, .inr (.inl (h.L i))) := by
  unfold cE
  rw [hc, if_neg (by omega), if_pos rfl]
theorem cE_ref {G : Gm} {ad : Nat → Nat} {h : AH} {i kd : Nat} (hc : (h.sh i).1 = kd) (h1 : 104 ≤ kd) : cE G ad h i = .inl (G.cy (kd - 100), (h.sh i).2, .inr (.inr (.inr (.inr (fun j => (h.R i j).map ad))))) := by
  subst hc
  unfold cE
  rw [if_neg (by omega), if_neg (by omega), if_pos h1]
/-- no reference points beyond -/
def clo (h : AH) : Prop := ∀ i j b, h.R i j = some b → b < h.n
abbrev tyA (G : Gm) : List (ClassId × FieldType) := [(G.cy 0, .int), (G.cy 1, .long), (G.cy 2, .byte), (G.cy 3, .short), (G.cy 4, .object RX2), (G.cy 5, .array .long)]
-- the locals
def lvOK (ad : Nat → Nat) (lsA : Array Slot) (nL : Nat) (ls : Lcs) : Prop := lsA.size = nL ∧ ls.length = nL ∧ lv_wf lsA ∧ ∀ (i : Nat) (v : Value), ls[i]? = some (some v) → lsA[i]? = some (.val (cv ad v))
def lvl (ad : Nat → Nat) (ls : Lcs) : List (Nat × Value) := (List.range ls.length).filterMap (fun i => match ls[i]? with
  | some (some v) => some (i, cv ad v)
  | _ => none)
theorem lvl_mem {ad : Nat → Nat} {ls : Lcs} {i : Nat} {v : Value} (h : ls[i]? = some (some v)) : (i, cv ad v) ∈ lvl ad ls := by
  refine List.mem_filterMap.mpr ⟨i, List.mem_range.mpr (List.getElem?_eq_some_iff.mp h).1, ?_⟩
  rw [h]
theorem lvl_of {ad : Nat → Nat} {ls : Lcs} {q : Nat × Value} (h : q ∈ lvl ad ls) : ∃ v, ls[q.1]? = some (some v) ∧ q.2 = cv ad v := by
  obtain ⟨i, -, hi⟩ := List.mem_filterMap.mp h
  split at hi
  · rename_i v hv
    cases hi
    exact ⟨v, hv, rfl⟩
  · cases hi
theorem lvOK.has {ad : Nat → Nat} {lsA : Array Slot} {nL : Nat} {ls : Lcs} (h : lvOK ad lsA nL ls) : lv_has lsA nL (lvl ad ls) := by
  refine ⟨h.1, h.2.2.1, fun q hq => ?_⟩
  obtain ⟨v, h1, h2⟩ := lvl_of hq
  rw [h2]
  exact h.2.2.2 _ v h1
theorem cv_cat (ad : Nat → Nat) (v : Value) : (cv ad v).category = v.category := by cases v <;> rfl
theorem st0_len (ls : Lcs) (i : Nat) : (st0 ls i).length = ls.length := by
  unfold st0
  split
  · rfl
  · rename_i j
    cases h : isLg ls[j]? <;> simp
theorem st1_len (ls : Lcs) (i : Nat) (v : Value) : (st1 ls i v).length = ls.length := by simp [st1, st0_len]
theorem st2_len (ls : Lcs) (i : Nat) (v : Value) : (st2 ls i v).length = ls.length := by simp [st2, st0_len]
/-- behind the clearing: what stands is from before, and no long stands just ahead of i -/
theorem st0_get {ls : Lcs} {i j : Nat} {w : Value} (h : (st0 ls i)[j]? = some (some w)) : ls[j]? = some (some w) ∧ ¬ (j + 1 = i ∧ w.category = 2) := by
  unfold st0 at h
  split at h
  · exact ⟨h, fun q => by omega⟩
  · rename_i n
    cases hb : isLg ls[n]? with
    | true =>
      rw [hb] at h
      simp only [cond_true] at h
      by_cases hj : j = n
      · subst hj
        have hl := (List.getElem?_eq_some_iff.mp h).1
        rw [List.length_set] at hl
        rw [List.getElem?_set_self hl] at h
        cases h
      · rw [List.getElem?_set_ne (Ne.symm hj)] at h
        exact ⟨h, fun q => hj (by omega)⟩
    | false =>
      rw [hb] at h
      simp only [cond_false] at h
      refine ⟨h, fun q => ?_⟩
      have : j = n := by omega
      subst this
      rw [h] at hb
      simp [isLg, q.2] at hb
theorem lvOK.of1 {ad : Nat → Nat} {lsA lsB : Array Slot} {nL i : Nat} {ls : Lcs} {v : Value} (h : lvOK ad lsA nL ls) (hi : i < nL) (hb : lv_has lsB nL ((i, cv ad v) :: (lvl ad ls).filter (fun q => !(q.1 == i) && !(q.1 + 1 == i && q.2.category == 2)))) : lvOK ad lsB nL (st1 ls i v) := by
  refine ⟨hb.1, by rw [st1_len]; exact h.2.1, hb.2.1, fun j w hj => ?_⟩
  unfold st1 at hj
  by_cases hji : j = i
  · subst hji
    rw [List.getElem?_set_self (by rw [st0_len, h.2.1]; exact hi)] at hj
    cases hj
    exact hb.2.2 (j, cv ad v) List.mem_cons_self
  · rw [List.getElem?_set_ne (Ne.symm hji)] at hj
    obtain ⟨h1, h2⟩ := st0_get hj
    refine hb.2.2 (j, cv ad w) (List.mem_cons_of_mem _ (List.mem_filter.mpr ⟨lvl_mem h1, ?_⟩))
    simp only [cv_cat, Bool.and_eq_true, Bool.not_eq_true', beq_eq_false_iff_ne, ne_eq, Bool.and_eq_false_iff]
    refine ⟨hji, ?_⟩
    by_cases hc : j + 1 = i
    · exact Or.inr (fun z => h2 ⟨hc, z⟩)
    · exact Or.inl hc
theorem lvOK.of2 {ad : Nat → Nat} {lsA lsB : Array Slot} {nL i : Nat} {ls : Lcs} {v : Value} (h : lvOK ad lsA nL ls) (hi : i + 1 < nL) (hb : lv_has lsB nL ((i, cv ad v) :: (lvl ad ls).filter (fun q => !(q.1 == i) && (!(q.1 == i + 1) && !(q.1 + 1 == i && q.2.category == 2))))) : lvOK ad lsB nL (st2 ls i v) := by
  refine ⟨hb.1, by rw [st2_len]; exact h.2.1, hb.2.1, fun j w hj => ?_⟩
  unfold st2 at hj
  by_cases hj1 : j = i + 1
  · subst hj1
    rw [List.getElem?_set_self (by rw [List.length_set, st0_len, h.2.1]; exact hi)] at hj
    cases hj
  · rw [List.getElem?_set_ne (Ne.symm hj1)] at hj
    by_cases hji : j = i
    · subst hji
      rw [List.getElem?_set_self (by rw [st0_len, h.2.1]; omega)] at hj
      cases hj
      exact hb.2.2 (j, cv ad v) List.mem_cons_self
    · rw [List.getElem?_set_ne (Ne.symm hji)] at hj
      obtain ⟨h1, h2⟩ := st0_get hj
      refine hb.2.2 (j, cv ad w) (List.mem_cons_of_mem _ (List.mem_filter.mpr ⟨lvl_mem h1, ?_⟩))
      simp only [cv_cat, Bool.and_eq_true, Bool.not_eq_true', beq_eq_false_iff_ne, ne_eq, Bool.and_eq_false_iff]
      refine ⟨hji, hj1, ?_⟩
      by_cases hc : j + 1 = i
      · exact Or.inr (fun z => h2 ⟨hc, z⟩)
      · exact Or.inl hc
theorem gd_some {ρ : Type} {b : Bool} {x : Option ρ} {r : ρ} (h : gd b x = some r) : b = true ∧ x = some r := by
  unfold gd at h
  cases b
  · cases h
  · exact ⟨rfl, h⟩
-- what lies outside: the two static rows, the text
def tbA : List Int32 := [-1, 0, 0, 2, 1, 3, 0, 6]
def tbO : List Int32 := [1, 10, 11, 2, 20, 0, 0, 0, 0, 30, 0, 0, 0, 41, 40, 0, 0, 0, 0, 50, 0, 0, 60, 61, 70, 0, 0, 0, 81, 80, 0, 0]
/-- the class of long[][] stands -/
def AOl (U : State) : Prop := (Cond.arrayOver (.array .long)).before #[] U = true
theorem AOl.moved {u U : State} (hvm : u.vm.Alike U.vm) (h : AOl u) : AOl U := by
  unfold AOl Cond.before Cond.holds at h ⊢
  simp only [Cond.value] at h ⊢
  cases h1 : u.vm.findClass (FieldType.array .long).toString with
  | none => rw [h1] at h; cases h
  | some comp =>
    rw [h1, Option.bind_some] at h
    have h' : (((u.vm.classes.findIdx? fun (x : Class) => match x.kind with | .array component _ => component == comp | _ => false).bind fun c => (u.vm.classes[c]?).map fun (k : Class) => match k.kind with | .array _ ty => decide (ty = FieldType.array .long) && decide (u.vm.findClass ("[" ++ (FieldType.array .long).toString) = some c) | _ => false) == some true) = true := h
    cases h2 : (u.vm.classes.findIdx? fun (x : Class) => match x.kind with | .array component _ => component == comp | _ => false) with
    | none => rw [h2] at h'; cases h'
    | some c =>
      rw [h2, Option.bind_some] at h'
      cases h3 : u.vm.classes[c]? with
      | none => rw [h3] at h'; cases h'
      | some k =>
        rw [h3] at h'
        obtain ⟨k', hk', he⟩ := hvm.2.2 _ _ h3
        have hi : (U.vm.classes.findIdx? fun (x : Class) => match x.kind with | .array component _ => component == comp | _ => false) = some c := by
          refine Eq.trans (va_idx_bare U.vm comp).symm ?_
          first | rw [hvm.bare_eq] | rw [← hvm.bare_eq]
          exact (va_idx_bare u.vm comp).trans h2
        have hkind : k'.kind = k.kind := by rw [he]
        have f1 : U.vm.findClass (FieldType.array .long).toString = some comp := by rw [hvm.findClass]; exact h1
        rw [f1, Option.bind_some]
        refine (congrArg (fun o : Option Nat => (o.bind (fun c => (U.vm.classes[c]?).map fun (k : Class) => match k.kind with | .array _ ty => decide (ty = FieldType.array .long) && decide (U.vm.findClass ("[" ++ (FieldType.array .long).toString) = some c) | _ => false) == some true)) hi).trans ?_
        rw [Option.bind_some, hk', Option.map_some, hkind, hvm.findClass]
        exact h'
def EX (G : Gm) (A : Nat → Prop) (U : State) : Prop := va_Z RX0 "ABOVE" "[I" (.ref (G.ex 0)) A U U.heap ∧ va_T .int (G.ex 0) 8 (fun j => .int (tbA.getD j 0)) A U U.heap ∧ va_Z RX0 "OWN" "[I" (.ref (G.ex 1)) A U U.heap ∧ va_T .int (G.ex 1) 32 (fun j => .int (tbO.getD j 0)) A U U.heap ∧
  vk_R RX8 76 "gnbhpo" (G.ex 2) U ∧ vk_S 1 [6] [[103, 110, 98, 104, 112, 111]] (fun _ => G.ex 2) (fun _ => G.ex 3) A U U.heap ∧ va_Z "java/lang/String" "COMPACT_STRINGS" "Z" (.int 1) A U U.heap ∧ va_AO RX2 U ∧ AOl U
/-- what a method's walk stands on -/
def Cx (G : Gm) (A : Nat → Prop) (own : String) (cc : ByteArray) (nL : Nat) (p : Program) (s : State) (m : MethodId) (args : Array Value) (c : Code) : Prop :=
  p.tables.exec = Jvm.exec ∧ c.code = cc ∧ c.maxLocals = nL ∧ s.vm.findClass own = some m.cls ∧ (∀ w ∈ TB, w.before args s = true) ∧ va_K G.D vwCl (tyA G) s ∧ (∀ q, s.heap.size ≤ q → A q) ∧ EX G A s
/-- heap and abstract heap -/
def Rl (G : Gm) (A : Nat → Prop) (s : State) (n0 sl0 : Nat) (ad0 ad : Nat → Nat) (h : AH) (H : Heap) (locs : List Loc) (cells slots : Nat) : Prop :=
  va_P G.D vwCl (wsA G ad h) H ∧ va_D A (wsA G ad h) ∧ va_S A s.heap H locs ∧ clo h ∧ (∀ j, ad (200 + j) = G.ex j) ∧ cells + n0 = h.n ∧ slots + sl0 = h.sl ∧ ∀ i, (i < n0 ∨ h.n ≤ i) → ad i = ad0 i
/-- from here the machine goes well -/
def Gd (G : Gm) (A : Nat → Prop) (nL n0 sl0 : Nat) (ad0 : Nat → Nat) (p : Program) (l : Launch) (e : Env) (R : Room) (s : State) (m : MethodId) (args : Array Value) (below : List Frame) (meth : Method) (c : Code) (Q : State → Prop) {σ : Type} (O : Ops σ) (pc : Nat) (ls : Lcs) (st : List Value) (x : σ) : Prop :=
  ∀ (ad : Nat → Nat) (H : Heap) (locs : List Loc) (cells slots : Nat) (lsA : Array Slot), Rl G A s n0 sl0 ad0 ad (O.emb x) H locs cells slots → lvOK ad lsA nL ls → W p l e R s m args below meth c H locs cells slots Q (F0 m pc lsA (st.map (cv ad)))
/-- an instruction's row: if it goes on, and what it goes on to goes well, it goes well -/
def OKi (G : Gm) (A : Nat → Prop) (nL n0 sl0 : Nat) (ad0 : Nat → Nat) (p : Program) (l : Launch) (e : Env) (R : Room) (s : State) (m : MethodId) (args : Array Value) (below : List Frame) (meth : Method) (c : Code) (Q : State → Prop) {σ ρ : Type} (O : Ops σ) (ret : Option Value → σ → Option ρ) (r : ρ) (pc : Nat) (ins : Ins σ) : Prop :=
  ∀ (ls : Lcs) (st : List Value) (x : σ) (k : Kn σ ρ), ins ρ ret pc ls st x k = some r → (∀ pc' ls' st' x', k pc' ls' st' x' = some r → Gd G A nL n0 sl0 ad0 p l e R s m args below meth c Q O pc' ls' st' x') → Gd G A nL n0 sl0 ad0 p l e R s m args below meth c Q O pc ls st x
section OKS
variable {ad0 : Nat → Nat} {G : Gm} {A : Nat → Prop} {own : String} {cc : ByteArray} {nL n0 sl0 : Nat} {p : Program} {l : Launch} {e : Env} {R : Room} {s : State} {m : MethodId} {args : Array Value} {below : List Frame} {meth : Method} {c : Code} {Q : State → Prop} {σ ρ : Type} {O : Ops σ} {ret : Option Value → σ → Option ρ} {r : ρ} {pc nx : Nat}
theorem ok_iconst (X : Cx G A own cc nL p s m args c) {n : Int} {v : Int32} (d : decode cc pc = .ok (.iconst n, 1)) (hv : Int32.ofInt n = v) (hn : pc + 1 = nx) : OKi G A nL n0 sl0 ad0 p l e R s m args below meth c Q O ret r pc (e_iconst v nx) := by
  intro ls st x k h hk ad H locs cells slots lsA hR hl
  subst hn
  exact lv_iconst X.1 X.2.1 d hv (hk _ _ _ _ h ad H locs cells slots lsA hR hl)
theorem ok_bipush (X : Cx G A own cc nL p s m args c) {n : Int} {v : Int32} (d : decode cc pc = .ok (.bipush n, 2)) (hv : (Int8.ofInt n).toInt32 = v) (hn : pc + 2 = nx) : OKi G A nL n0 sl0 ad0 p l e R s m args below meth c Q O ret r pc (e_iconst v nx) := by
  intro ls st x k h hk ad H locs cells slots lsA hR hl
  subst hn
  exact lv_bipush X.1 X.2.1 d hv (hk _ _ _ _ h ad H locs cells slots lsA hR hl)
theorem ok_sipush (X : Cx G A own cc nL p s m args c) {n : Int} {v : Int32} (d : decode cc pc = .ok (.sipush n, 3)) (hv : (Int16.ofInt n).toInt32 = v) (hn : pc + 3 = nx) : OKi G A nL n0 sl0 ad0 p l e R s m args below meth c Q O ret r pc (e_iconst v nx) := by
  intro ls st x k h hk ad H locs cells slots lsA hR hl
  subst hn
  exact lv_sipush X.1 X.2.1 d hv (hk _ _ _ _ h ad H locs cells slots lsA hR hl)
theorem ok_ldc (X : Cx G A own cc nL p s m args c) {i : Nat} {v : Int32} (d : decode cc pc = .ok (.ldc i, 2)) (hw : Cond.constant own i v ∈ TB) (hn : pc + 2 = nx) : OKi G A nL n0 sl0 ad0 p l e R s m args below meth c Q O ret r pc (e_iconst v nx) := by
  intro ls st x k h hk ad H locs cells slots lsA hR hl
  subst hn
  exact lv_ldc X.1 X.2.1 X.2.2.2.1 (X.2.2.2.2.1 _ hw) d (hk _ _ _ _ h ad H locs cells slots lsA hR hl)
theorem ok_ldcw (X : Cx G A own cc nL p s m args c) {i : Nat} {v : Int32} (d : decode cc pc = .ok (.ldc_w i, 3)) (hw : Cond.constant own i v ∈ TB) (hn : pc + 3 = nx) : OKi G A nL n0 sl0 ad0 p l e R s m args below meth c Q O ret r pc (e_iconst v nx) := by
  intro ls st x k h hk ad H locs cells slots lsA hR hl
  subst hn
  exact lv_ldcw X.1 X.2.1 X.2.2.2.1 (X.2.2.2.2.1 _ hw) d (hk _ _ _ _ h ad H locs cells slots lsA hR hl)
theorem ok_ldc2 (X : Cx G A own cc nL p s m args c) {i : Nat} {v : Int64} (d : decode cc pc = .ok (.ldc2_w i, 3)) (hw : Cond.constantLong own i v ∈ TB) (hn : pc + 3 = nx) : OKi G A nL n0 sl0 ad0 p l e R s m args below meth c Q O ret r pc (e_lconst v nx) := by
  intro ls st x k h hk ad H locs cells slots lsA hR hl
  subst hn
  exact lv_ldc2 X.1 X.2.1 X.2.2.2.1 (X.2.2.2.2.1 _ hw) d (hk _ _ _ _ h ad H locs cells slots lsA hR hl)
theorem ok_lconst (X : Cx G A own cc nL p s m args c) {n : Fin 2} {v : Int64} (d : decode cc pc = .ok (.lconst n, 1)) (hv : Int64.ofNat (n : Nat) = v) (hn : pc + 1 = nx) : OKi G A nL n0 sl0 ad0 p l e R s m args below meth c Q O ret r pc (e_lconst v nx) := by
  intro ls st x k h hk ad H locs cells slots lsA hR hl
  subst hn
  exact lv_lconst X.1 X.2.1 d hv (hk _ _ _ _ h ad H locs cells slots lsA hR hl)
theorem ok_null (X : Cx G A own cc nL p s m args c) (d : decode cc pc = .ok (.aconst_null, 1)) (hn : pc + 1 = nx) : OKi G A nL n0 sl0 ad0 p l e R s m args below meth c Q O ret r pc (e_null nx) := by
  intro ls st x k h hk ad H locs cells slots lsA hR hl
  subst hn
  exact lv_null X.1 X.2.1 d (hk _ _ _ _ h ad H locs cells slots lsA hR hl)
theorem ok_iload_n (X : Cx G A own cc nL p s m args c) {j : Fin 4} {i : Nat} (d : decode cc pc = .ok (.iload_n j, 1)) (hi : (j : Nat) = i) (hn : pc + 1 = nx) : OKi G A nL n0 sl0 ad0 p l e R s m args below meth c Q O ret r pc (e_iload i nx) := by
  intro ls st x k h hk ad H locs cells slots lsA hR hl
  subst hn
  unfold e_iload at h
  split at h
  · rename_i v hv
    exact lv_iload_n X.1 X.2.1 d hi (hl.2.2.2 _ _ hv) (hk _ _ _ _ h ad H locs cells slots lsA hR hl)
  · cases h
theorem ok_iload (X : Cx G A own cc nL p s m args c) {i : Nat} (d : decode cc pc = .ok (.iload i, 2)) (hn : pc + 2 = nx) : OKi G A nL n0 sl0 ad0 p l e R s m args below meth c Q O ret r pc (e_iload i nx) := by
  intro ls st x k h hk ad H locs cells slots lsA hR hl
  subst hn
  unfold e_iload at h
  split at h
  · rename_i v hv
    exact lv_iload X.1 X.2.1 d (hl.2.2.2 _ _ hv) (hk _ _ _ _ h ad H locs cells slots lsA hR hl)
  · cases h
theorem ok_lload_n (X : Cx G A own cc nL p s m args c) {j : Fin 4} {i : Nat} (d : decode cc pc = .ok (.lload_n j, 1)) (hi : (j : Nat) = i) (hn : pc + 1 = nx) : OKi G A nL n0 sl0 ad0 p l e R s m args below meth c Q O ret r pc (e_lload i nx) := by
  intro ls st x k h hk ad H locs cells slots lsA hR hl
  subst hn
  unfold e_lload at h
  split at h
  · rename_i v hv
    exact lv_lload_n X.1 X.2.1 d hi (hl.2.2.2 _ _ hv) (hk _ _ _ _ h ad H locs cells slots lsA hR hl)
  · cases h
theorem ok_lload (X : Cx G A own cc nL p s m args c) {i : Nat} (d : decode cc pc = .ok (.lload i, 2)) (hn : pc + 2 = nx) : OKi G A nL n0 sl0 ad0 p l e R s m args below meth c Q O ret r pc (e_lload i nx) := by
  intro ls st x k h hk ad H locs cells slots lsA hR hl
  subst hn
  unfold e_lload at h
  split at h
  · rename_i v hv
    exact lv_lload X.1 X.2.1 d (hl.2.2.2 _ _ hv) (hk _ _ _ _ h ad H locs cells slots lsA hR hl)
  · cases h
theorem ok_aload_n (X : Cx G A own cc nL p s m args c) {j : Fin 4} {i : Nat} (d : decode cc pc = .ok (.aload_n j, 1)) (hi : (j : Nat) = i) (hn : pc + 1 = nx) : OKi G A nL n0 sl0 ad0 p l e R s m args below meth c Q O ret r pc (e_aload i nx) := by
  intro ls st x k h hk ad H locs cells slots lsA hR hl
  subst hn
  unfold e_aload at h
  split at h
  · rename_i v hv
    exact lv_aload_n X.1 X.2.1 d hi (hl.2.2.2 _ _ hv) (hk _ _ _ _ h ad H locs cells slots lsA hR hl)
  · rename_i hv
    exact lv_aload_nN X.1 X.2.1 d hi (hl.2.2.2 _ _ hv) (hk _ _ _ _ h ad H locs cells slots lsA hR hl)
  · cases h
theorem ok_aload (X : Cx G A own cc nL p s m args c) {i : Nat} (d : decode cc pc = .ok (.aload i, 2)) (hn : pc + 2 = nx) : OKi G A nL n0 sl0 ad0 p l e R s m args below meth c Q O ret r pc (e_aload i nx) := by
  intro ls st x k h hk ad H locs cells slots lsA hR hl
  subst hn
  unfold e_aload at h
  split at h
  · rename_i v hv
    exact lv_aload X.1 X.2.1 d (hl.2.2.2 _ _ hv) (hk _ _ _ _ h ad H locs cells slots lsA hR hl)
  · rename_i hv
    exact lv_aloadN X.1 X.2.1 d (hl.2.2.2 _ _ hv) (hk _ _ _ _ h ad H locs cells slots lsA hR hl)
  · cases h
end OKS
