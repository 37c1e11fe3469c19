/-! making cells: the rows of constructors, over abstract heaps themselves -/
def opsC (Nf Sf : Nat) : Ops AH := (fun h => h, fun h a f => h.wI a f, fun h a f => h.wL a f, fun h a kf v => some (h.wR a (va_up (h.R a) kf (some v))), fun h q => bif Nat.ble (h.n + 1) Nf && Nat.ble (h.sl + q.2) Sf && Nat.ble (h.n + 1) 200 then some (h.push q) else none)
theorem opsC_ok (Nf Sf : Nat) : OpsOK (opsC Nf Sf) Nf Sf := by
  refine ⟨fun _ _ _ => rfl, fun _ _ _ => rfl, fun x a kf v x' h => ?_, fun x q x' h => ?_⟩
  · cases h
    rfl
  · have h : (bif Nat.ble (x.n + 1) Nf && Nat.ble (x.sl + q.2) Sf && Nat.ble (x.n + 1) 200 then some (x.push q) else none) = some x' := h
    cases hb : Nat.ble (x.n + 1) Nf && Nat.ble (x.sl + q.2) Sf && Nat.ble (x.n + 1) 200 with
    | false => rw [hb] at h; cases h
    | true =>
      rw [hb] at h
      cases h
      simp only [Bool.and_eq_true] at hb
      exact ⟨rfl, Nat.le_of_ble_eq_true hb.1.1, Nat.le_of_ble_eq_true hb.1.2, Nat.le_of_ble_eq_true hb.2⟩
theorem mapR_push {ad : Nat → Nat} {h : AH} (hcl : clo h) (q : Nat × Nat) (a : Nat) {i : Nat} (hi : i < h.n) (j : Nat) : ((h.push q).R i j).map (va_up ad h.n a) = (h.R i j).map ad := by
  have e1 : (h.push q).R i j = h.R i j := congrFun (va_up_ne h.R (k := h.n) (j := i) _ (by omega)) j
  rw [e1]
  cases hr : h.R i j with
  | none => rfl
  | some b =>
    have := hcl i j b hr
    show some (va_up ad h.n a b) = some (ad b)
    rw [va_up_ne _ _ (by omega)]
theorem cE_push {G : Gm} {ad : Nat → Nat} {h : AH} (hcl : clo h) (q : Nat × Nat) (a : Nat) {i : Nat} (hi : i < h.n) : cE G (va_up ad h.n a) (h.push q) i = cE G ad h i := by
  have hS : (h.push q).sh i = h.sh i := va_up_ne _ _ (by omega)
  have hI : (h.push q).I i = h.I i := va_up_ne _ _ (by omega)
  have hL : (h.push q).L i = h.L i := va_up_ne _ _ (by omega)
  have hR := fun j => mapR_push (ad := ad) hcl q a hi j
  unfold cE fsO fV
  simp only [hS, hI, hL, hR]
theorem wsA_push {G : Gm} {ad : Nat → Nat} {h : AH} (hcl : clo h) (q : Nat × Nat) (a : Nat) {v : va_E} (hv : cE G (va_up ad h.n a) (h.push q) h.n = v) : wsA G ad h ++ [(a, v)] = wsA G (va_up ad h.n a) (h.push q) := by
  subst hv
  unfold wsA
  show _ = (List.range (h.n + 1)).map _
  rw [List.range_succ, List.map_append, List.map_cons, List.map_nil, va_up_self]
  congr 1
  refine List.map_congr_left fun i hi => ?_
  have hi := List.mem_range.mp hi
  rw [cE_push hcl q a hi, va_up_ne _ _ (by omega)]
theorem fre_cv {ad ad' : Nat → Nat} {n n' : Nat} (had : ∀ i, (i < n ∨ n' ≤ i) → ad' i = ad i) {v : Value} (h : fre n n' v = true) : cv ad' v = cv ad v := by
  cases v with
  | ref b =>
    simp only [fre, Bool.or_eq_true] at h
    refine congrArg Value.ref (had b (h.imp (fun z => Nat.le_of_ble_eq_true z) (fun z => Nat.le_of_ble_eq_true z)))
  | _ => rfl
theorem fre_map {ad ad' : Nat → Nat} {n n' : Nat} (had : ∀ i, (i < n ∨ n' ≤ i) → ad' i = ad i) {st : List Value} (h : st.all (fre n n') = true) : st.map (cv ad') = st.map (cv ad) :=
  List.map_congr_left fun v hv => fre_cv had (List.all_eq_true.mp h v hv)
theorem fre_lv {ad ad' : Nat → Nat} {n n' : Nat} (had : ∀ i, (i < n ∨ n' ≤ i) → ad' i = ad i) {ls : Lcs} (h : freL n n' ls = true) {lsA : Array Slot} {nL : Nat} (hl : lvOK ad lsA nL ls) : lvOK ad' lsA nL ls := by
  refine ⟨hl.1, hl.2.1, hl.2.2.1, fun i v hv => ?_⟩
  have := List.all_eq_true.mp h _ (List.mem_of_getElem? hv)
  rw [fre_cv had this]
  exact hl.2.2.2 i v hv
theorem va_up_ag (ad : Nat → Nat) (n a : Nat) : ∀ i, (i < n ∨ n + 1 ≤ i) → va_up ad n a i = ad i := fun i hi => va_up_ne _ _ (by omega)
def dfV : FieldType → Value
  | .long => .long 0
  | .object _ => .null
  | .array _ => .null
  | _ => .int 0
def okTy : FieldType → Bool
  | .long => true
  | .object _ => true
  | .array _ => true
  | .int => true
  | .boolean => true
  | _ => false
theorem okTy_d {t : FieldType} (h : okTy t = true) : defaultValue t = dfV t := by
  cases t <;> first | rfl | cases h
theorem cE_new {G : Gm} {ad : Nat → Nat} {h : AH} {ci nf a : Nat} (h1 : ci < 100) : cE G (va_up ad h.n a) (h.push (ci, nf)) h.n = .inr (ci, (List.range nf).map (fun j => dfV (tyC ci j))) := by
  have hS : (h.push (ci, nf)).sh h.n = (ci, nf) := va_up_self _ _ _
  have hI : (h.push (ci, nf)).I h.n = fun _ => 0 := va_up_self _ _ _
  have hL : (h.push (ci, nf)).L h.n = fun _ => 0 := va_up_self _ _ _
  have hR : (h.push (ci, nf)).R h.n = fun _ => none := va_up_self _ _ _
  rw [cE_obj (h := h.push (ci, nf)) (ci := ci) (by rw [hS]) h1]
  unfold fsO
  rw [hS]
  refine congrArg (fun z => Sum.inr (ci, z)) (List.map_congr_left fun j _ => ?_)
  unfold fV dfV
  rw [hI, hL, hR]
  cases tyC ci j <;> rfl
section OKN
variable {ad0 : Nat → Nat} {G : Gm} {A : Nat → Prop} {own : String} {cc : ByteArray} {nL n0 sl0 : Nat} {p : Program} {l : Launch} {e : Env} {R : Room} {s : State} {m : MethodId} {args : Array Value} {below : List Frame} {meth : Method} {c : Code} {Q : State → Prop} {σ ρ : Type} {O : Ops σ} {ret : Option Value → σ → Option ρ} {r : ρ} {pc nx : Nat} {Nf Sf D : Nat} {cal : Cal σ}
theorem Rl.push {ad : Nat → Nat} {h : AH} {H H1 : Heap} {locs : List Loc} {cells slots a : Nat} {q : Nat × Nat} {v : va_E} (hR : Rl G A s n0 sl0 ad0 ad h H locs cells slots) (hn : h.n < 200) (hv : cE G (va_up ad h.n a) (h.push q) h.n = v) (hP : va_P G.D vwCl (wsA G ad h ++ [(a, v)]) H1) (hD : va_D A (wsA G ad h ++ [(a, v)])) (hS : va_S A s.heap H1 locs) : Rl G A s n0 sl0 ad0 (va_up ad h.n a) (h.push q) H1 locs (cells + 1) (slots + q.2) := by
  rw [wsA_push hR.2.2.2.1 q a hv] at hP hD
  obtain ⟨k1, k2, k3, k4, k5, k6, k7, k8⟩ := hR
  refine ⟨hP, hD, hS, fun i j b hb => ?_, fun j => ?_, ?_, ?_, fun i hi => ?_⟩
  · show b < h.n + 1
    by_cases hi : i = h.n
    · subst hi
      have hz : (h.push q).R h.n j = none := congrFun (va_up_self h.R h.n (fun _ => none)) j
      rw [hz] at hb
      cases hb
    · have e1 : (h.push q).R i j = h.R i j := congrFun (va_up_ne h.R (k := h.n) (j := i) _ hi) j
      rw [e1] at hb
      have := k4 i j b hb
      omega
  · rw [va_up_ne _ _ (by omega)]
    exact k5 j
  · show cells + 1 + n0 = h.n + 1
    omega
  · show slots + q.2 + sl0 = h.sl + q.2
    omega
  · have hi : i < n0 ∨ h.n + 1 ≤ i := hi
    rw [va_up_ne _ _ (by omega)]
    exact k8 i (by omega)
theorem ok_new (X : Cx G A own cc nL p s m args c) (hO : OpsOK O Nf Sf) (hNf : Nf ≤ n0 + R.cells) (hSf : Sf ≤ sl0 + R.slots) {C : String} {T : u_T} {N ci idx : Nat} (hc : vwCl[ci]? = some (C, T, N)) (h100 : ci < 100) (hin : ∀ w ∈ u_ws C T N, w ∈ TB) (hty : ∀ k, k < N → parseFieldDescriptor (T k).2.2.1 = some (tyC ci k)) (hok : (List.range N).all (fun j => okTy (tyC ci j)) = true) (hq : Cond.classLink own idx C ∈ TB) (ht : Cond.instantiable C N ∈ TB) (hi : Cond.initialized C ∈ TB) (d : decode cc pc = .ok (.new idx, 3)) (hn : pc + 3 = nx) : OKi G A nL n0 sl0 ad0 p l e R s m args below meth c Q O ret r pc (e_new O ci N nx) := by
  intro ls st x k h hk ad H locs cells slots lsA hR hl
  subst hn
  unfold e_new at h
  obtain ⟨hb, h⟩ := gd_some h
  rw [Bool.and_eq_true] at hb
  split at h
  · rename_i x' hx'
    obtain ⟨e1, e2, e3, e4⟩ := hO.2.2.2 _ _ _ hx'
    have k6 := hR.2.2.2.2.2.1
    have k7 := hR.2.2.2.2.2.2.1
    refine va_new X.1 X.2.1 X.2.2.2.2.1 hin (tyC ci) hty X.2.2.2.1 (X.2.2.2.2.1 _ hq) (X.2.2.2.2.1 _ ht) (X.2.2.2.2.1 _ hi) X.2.2.2.2.2.1 hR.1 hR.2.1 hR.2.2.1 X.2.2.2.2.2.2.1 hc (fs := (List.range N).map (fun j => dfV (tyC ci j))) (fun j hj => ?_) (by omega) (by have : slots + N ≤ R.slots := by { have : (O.emb x).sl + N ≤ Sf := e3; omega }; exact this) d (fun q H1 hP hD hS => ?_)
    · have := List.all_eq_true.mp hok j (List.mem_range.mpr hj)
      rw [okTy_d this]
      show _ = ((List.range N).map (fun j => dfV (tyC ci j))).getD j .null
      rw [List.getD_eq_getElem?_getD, List.getElem?_map, List.getElem?_range hj]
      rfl
    · have hRl := hR.push (q := (ci, N)) e4 (cE_new h100) hP hD hS
      have had := va_up_ag ad (O.emb x).n q
      have g := hk _ _ _ _ h (va_up ad (O.emb x).n q) H1 locs (cells + 1) (slots + N) lsA (by rw [e1]; exact hRl) (fre_lv had hb.2 hl)
      rw [List.map_cons, fre_map had hb.1, show cv (va_up ad (O.emb x).n q) (Value.ref (O.emb x).n) = .ref q from congrArg Value.ref (va_up_self _ _ _)] at g
      exact g
  · cases h
theorem cE_newI {G : Gm} {ad : Nat → Nat} {h : AH} {kd n a : Nat} (h1 : kd = 100 ∨ kd = 102 ∨ kd = 103) : cE G (va_up ad h.n a) (h.push (kd, n)) h.n = .inl (G.cy (kd - 100), n, .inl (fun _ => 0)) := by
  have hS : (h.push (kd, n)).sh h.n = (kd, n) := va_up_self _ _ _
  have hI : (h.push (kd, n)).I h.n = fun _ => 0 := va_up_self _ _ _
  rw [cE_int (h := h.push (kd, n)) (kd := kd) (by rw [hS]) h1, hS, hI]
theorem cE_newL {G : Gm} {ad : Nat → Nat} {h : AH} {n a : Nat} : cE G (va_up ad h.n a) (h.push (101, n)) h.n = .inl (G.cy 1, n, .inr (.inl (fun _ => 0))) := by
  have hS : (h.push (101, n)).sh h.n = (101, n) := va_up_self _ _ _
  have hL : (h.push (101, n)).L h.n = fun _ => 0 := va_up_self _ _ _
  rw [cE_long (h := h.push (101, n)) (by rw [hS]), hS, hL]
theorem cE_newR {G : Gm} {ad : Nat → Nat} {h : AH} {kd n a : Nat} (h1 : 104 ≤ kd) : cE G (va_up ad h.n a) (h.push (kd, n)) h.n = .inl (G.cy (kd - 100), n, .inr (.inr (.inr (.inr (fun _ => none))))) := by
  have hS : (h.push (kd, n)).sh h.n = (kd, n) := va_up_self _ _ _
  have hR : (h.push (kd, n)).R h.n = fun _ => none := va_up_self _ _ _
  rw [cE_ref (h := h.push (kd, n)) (kd := kd) (by rw [hS]) h1, hS, hR]
  rfl
theorem ok_newa_int (X : Cx G A own cc nL p s m args c) (hO : OpsOK O Nf Sf) (hNf : Nf ≤ n0 + R.cells) (hSf : Sf ≤ sl0 + R.slots) (d : decode cc pc = .ok (.newarray .int, 2)) (hn : pc + 2 = nx) : OKi G A nL n0 sl0 ad0 p l e R s m args below meth c Q O ret r pc (e_newa O 100 nx) := by
  intro ls st x k h hk ad H locs cells slots lsA hR hl
  subst hn
  unfold e_newa at h
  split at h
  · rename_i n rest
    obtain ⟨hb, h⟩ := gd_some h
    simp only [Bool.and_eq_true] at hb
    obtain ⟨⟨hb1, hb2⟩, hb3, hb4⟩ := hb
    have hb1 : ¬ n < 0 := by simpa using hb1
    have hb2 := Nat.le_of_ble_eq_true hb2
    split at h
    · rename_i x' hx'
      obtain ⟨e1, e2, e3, e4⟩ := hO.2.2.2 _ _ _ hx'
      have e3 : (O.emb x).sl + n.toNatClampNeg ≤ Sf := e3
      have k6 := hR.2.2.2.2.2.1
      have k7 := hR.2.2.2.2.2.2.1
      have hcb : componentBytes .int = 4 := rfl
      refine va_newa (atype := .int) (ty := .int) (a0 := (n.toNatClampNeg, .inl (fun _ => 0))) X.1 X.2.1 (X.2.2.2.2.1 _ wa_int) rfl X.2.2.2.2.2.1 hR.1 hR.2.1 hR.2.2.1 X.2.2.2.2.2.2.1 (fun cA => rfl) hb1 rfl (by rw [hcb]; omega) (by omega) (by omega) d (fun q cA H1 hK hP hD hS => ?_)
      have hf1 : s.vm.findClass ("[" ++ FieldType.toString .int) = some cA := (hK.2 6 (cA, .int) rfl).2
      have hf2 : s.vm.findClass ("[" ++ FieldType.toString .int) = some (G.cy 0) := (X.2.2.2.2.2.1.2 0 _ rfl).2
      have hcA : cA = G.cy 0 := Option.some.inj (hf1.symm.trans hf2)
      subst hcA
      have hRl := hR.push (q := (100, n.toNatClampNeg)) e4 (cE_newI (by decide)) hP hD hS
      have had := va_up_ag ad (O.emb x).n q
      have g := hk _ _ _ _ h (va_up ad (O.emb x).n q) H1 locs (cells + 1) (slots + n.toNatClampNeg) lsA (by rw [e1]; exact hRl) (fre_lv had hb4 hl)
      rw [List.map_cons, fre_map had hb3, show cv (va_up ad (O.emb x).n q) (Value.ref (O.emb x).n) = .ref q from congrArg Value.ref (va_up_self _ _ _)] at g
      exact g
    · cases h
  · cases h
theorem ok_newa_long (X : Cx G A own cc nL p s m args c) (hO : OpsOK O Nf Sf) (hNf : Nf ≤ n0 + R.cells) (hSf : Sf ≤ sl0 + R.slots) (d : decode cc pc = .ok (.newarray .long, 2)) (hn : pc + 2 = nx) : OKi G A nL n0 sl0 ad0 p l e R s m args below meth c Q O ret r pc (e_newa O 101 nx) := by
  intro ls st x k h hk ad H locs cells slots lsA hR hl
  subst hn
  unfold e_newa at h
  split at h
  · rename_i n rest
    obtain ⟨hb, h⟩ := gd_some h
    simp only [Bool.and_eq_true] at hb
    obtain ⟨⟨hb1, hb2⟩, hb3, hb4⟩ := hb
    have hb1 : ¬ n < 0 := by simpa using hb1
    have hb2 := Nat.le_of_ble_eq_true hb2
    split at h
    · rename_i x' hx'
      obtain ⟨e1, e2, e3, e4⟩ := hO.2.2.2 _ _ _ hx'
      have e3 : (O.emb x).sl + n.toNatClampNeg ≤ Sf := e3
      have k6 := hR.2.2.2.2.2.1
      have k7 := hR.2.2.2.2.2.2.1
      have hcb : componentBytes .long = 8 := rfl
      refine va_newa (atype := .long) (ty := .long) (a0 := (n.toNatClampNeg, .inr (.inl (fun _ => 0)))) X.1 X.2.1 (X.2.2.2.2.1 _ wa_long) rfl X.2.2.2.2.2.1 hR.1 hR.2.1 hR.2.2.1 X.2.2.2.2.2.2.1 (fun cA => rfl) hb1 rfl (by rw [hcb]; omega) (by omega) (by omega) d (fun q cA H1 hK hP hD hS => ?_)
      have hf1 : s.vm.findClass ("[" ++ FieldType.toString .long) = some cA := (hK.2 6 (cA, .long) rfl).2
      have hf2 : s.vm.findClass ("[" ++ FieldType.toString .long) = some (G.cy 1) := (X.2.2.2.2.2.1.2 1 _ rfl).2
      have hcA : cA = G.cy 1 := Option.some.inj (hf1.symm.trans hf2)
      subst hcA
      have hRl := hR.push (q := (101, n.toNatClampNeg)) e4 (cE_newL) hP hD hS
      have had := va_up_ag ad (O.emb x).n q
      have g := hk _ _ _ _ h (va_up ad (O.emb x).n q) H1 locs (cells + 1) (slots + n.toNatClampNeg) lsA (by rw [e1]; exact hRl) (fre_lv had hb4 hl)
      rw [List.map_cons, fre_map had hb3, show cv (va_up ad (O.emb x).n q) (Value.ref (O.emb x).n) = .ref q from congrArg Value.ref (va_up_self _ _ _)] at g
      exact g
    · cases h
  · cases h
theorem ok_newa_byte (X : Cx G A own cc nL p s m args c) (hO : OpsOK O Nf Sf) (hNf : Nf ≤ n0 + R.cells) (hSf : Sf ≤ sl0 + R.slots) (d : decode cc pc = .ok (.newarray .byte, 2)) (hn : pc + 2 = nx) : OKi G A nL n0 sl0 ad0 p l e R s m args below meth c Q O ret r pc (e_newa O 102 nx) := by
  intro ls st x k h hk ad H locs cells slots lsA hR hl
  subst hn
  unfold e_newa at h
  split at h
  · rename_i n rest
    obtain ⟨hb, h⟩ := gd_some h
    simp only [Bool.and_eq_true] at hb
    obtain ⟨⟨hb1, hb2⟩, hb3, hb4⟩ := hb
    have hb1 : ¬ n < 0 := by simpa using hb1
    have hb2 := Nat.le_of_ble_eq_true hb2
    split at h
    · rename_i x' hx'
      obtain ⟨e1, e2, e3, e4⟩ := hO.2.2.2 _ _ _ hx'
      have e3 : (O.emb x).sl + n.toNatClampNeg ≤ Sf := e3
      have k6 := hR.2.2.2.2.2.1
      have k7 := hR.2.2.2.2.2.2.1
      have hcb : componentBytes .byte = 1 := rfl
      refine va_newa (atype := .byte) (ty := .byte) (a0 := (n.toNatClampNeg, .inl (fun _ => 0))) X.1 X.2.1 (X.2.2.2.2.1 _ wa_byte) rfl X.2.2.2.2.2.1 hR.1 hR.2.1 hR.2.2.1 X.2.2.2.2.2.2.1 (fun cA => rfl) hb1 rfl (by rw [hcb]; omega) (by omega) (by omega) d (fun q cA H1 hK hP hD hS => ?_)
      have hf1 : s.vm.findClass ("[" ++ FieldType.toString .byte) = some cA := (hK.2 6 (cA, .byte) rfl).2
      have hf2 : s.vm.findClass ("[" ++ FieldType.toString .byte) = some (G.cy 2) := (X.2.2.2.2.2.1.2 2 _ rfl).2
      have hcA : cA = G.cy 2 := Option.some.inj (hf1.symm.trans hf2)
      subst hcA
      have hRl := hR.push (q := (102, n.toNatClampNeg)) e4 (cE_newI (by decide)) hP hD hS
      have had := va_up_ag ad (O.emb x).n q
      have g := hk _ _ _ _ h (va_up ad (O.emb x).n q) H1 locs (cells + 1) (slots + n.toNatClampNeg) lsA (by rw [e1]; exact hRl) (fre_lv had hb4 hl)
      rw [List.map_cons, fre_map had hb3, show cv (va_up ad (O.emb x).n q) (Value.ref (O.emb x).n) = .ref q from congrArg Value.ref (va_up_self _ _ _)] at g
      exact g
    · cases h
  · cases h
theorem ok_newa_short (X : Cx G A own cc nL p s m args c) (hO : OpsOK O Nf Sf) (hNf : Nf ≤ n0 + R.cells) (hSf : Sf ≤ sl0 + R.slots) (d : decode cc pc = .ok (.newarray .short, 2)) (hn : pc + 2 = nx) : OKi G A nL n0 sl0 ad0 p l e R s m args below meth c Q O ret r pc (e_newa O 103 nx) := by
  intro ls st x k h hk ad H locs cells slots lsA hR hl
  subst hn
  unfold e_newa at h
  split at h
  · rename_i n rest
    obtain ⟨hb, h⟩ := gd_some h
    simp only [Bool.and_eq_true] at hb
    obtain ⟨⟨hb1, hb2⟩, hb3, hb4⟩ := hb
    have hb1 : ¬ n < 0 := by simpa using hb1
    have hb2 := Nat.le_of_ble_eq_true hb2
    split at h
    · rename_i x' hx'
      obtain ⟨e1, e2, e3, e4⟩ := hO.2.2.2 _ _ _ hx'
      have e3 : (O.emb x).sl + n.toNatClampNeg ≤ Sf := e3
      have k6 := hR.2.2.2.2.2.1
      have k7 := hR.2.2.2.2.2.2.1
      have hcb : componentBytes .short = 2 := rfl
      refine va_newa (atype := .short) (ty := .short) (a0 := (n.toNatClampNeg, .inl (fun _ => 0))) X.1 X.2.1 (X.2.2.2.2.1 _ wa_short) rfl X.2.2.2.2.2.1 hR.1 hR.2.1 hR.2.2.1 X.2.2.2.2.2.2.1 (fun cA => rfl) hb1 rfl (by rw [hcb]; omega) (by omega) (by omega) d (fun q cA H1 hK hP hD hS => ?_)
      have hf1 : s.vm.findClass ("[" ++ FieldType.toString .short) = some cA := (hK.2 6 (cA, .short) rfl).2
      have hf2 : s.vm.findClass ("[" ++ FieldType.toString .short) = some (G.cy 3) := (X.2.2.2.2.2.1.2 3 _ rfl).2
      have hcA : cA = G.cy 3 := Option.some.inj (hf1.symm.trans hf2)
      subst hcA
      have hRl := hR.push (q := (103, n.toNatClampNeg)) e4 (cE_newI (by decide)) hP hD hS
      have had := va_up_ag ad (O.emb x).n q
      have g := hk _ _ _ _ h (va_up ad (O.emb x).n q) H1 locs (cells + 1) (slots + n.toNatClampNeg) lsA (by rw [e1]; exact hRl) (fre_lv had hb4 hl)
      rw [List.map_cons, fre_map had hb3, show cv (va_up ad (O.emb x).n q) (Value.ref (O.emb x).n) = .ref q from congrArg Value.ref (va_up_self _ _ _)] at g
      exact g
    · cases h
  · cases h
theorem ok_anew (X : Cx G A own cc nL p s m args c) (hO : OpsOK O Nf Sf) (hNf : Nf ≤ n0 + R.cells) (hSf : Sf ≤ sl0 + R.slots) {idx : Nat} (hq : Cond.classLink own idx RX2 ∈ TB) (d : decode cc pc = .ok (.anewarray idx, 3)) (hn : pc + 3 = nx) : OKi G A nL n0 sl0 ad0 p l e R s m args below meth c Q O ret r pc (e_newa O 104 nx) := by
  intro ls st x k h hk ad H locs cells slots lsA hR hl
  subst hn
  unfold e_newa at h
  split at h
  · rename_i n rest
    obtain ⟨hb, h⟩ := gd_some h
    simp only [Bool.and_eq_true] at hb
    obtain ⟨⟨hb1, hb2⟩, hb3, hb4⟩ := hb
    have hb1 : ¬ n < 0 := by simpa using hb1
    have hb2 := Nat.le_of_ble_eq_true hb2
    split at h
    · rename_i x' hx'
      obtain ⟨e1, e2, e3, e4⟩ := hO.2.2.2 _ _ _ hx'
      have e3 : (O.emb x).sl + n.toNatClampNeg ≤ Sf := e3
      have k6 := hR.2.2.2.2.2.1
      have k7 := hR.2.2.2.2.2.2.1
      refine va_newq X.1 X.2.1 X.2.2.2.1 (X.2.2.2.2.1 _ hq) X.2.2.2.2.2.2.2.2.2.2.2.2.2.2.1 X.2.2.2.2.2.1 hR.1 hR.2.1 hR.2.2.1 X.2.2.2.2.2.2.1 hb1 rfl (by omega) (by omega) (by omega) d (fun q cA H1 hK hP hD hS => ?_)
      obtain ⟨-, -, -, -, -, hf1⟩ := (hK.2 6 (cA, .object RX2) rfl).2
      obtain ⟨-, -, -, -, -, hf2⟩ := (X.2.2.2.2.2.1.2 4 _ rfl).2
      have hcA : cA = G.cy 4 := Option.some.inj (hf1.symm.trans hf2)
      subst hcA
      have hRl := hR.push (q := (104, n.toNatClampNeg)) e4 (cE_newR (by decide)) hP hD hS
      have had := va_up_ag ad (O.emb x).n q
      have g := hk _ _ _ _ h (va_up ad (O.emb x).n q) H1 locs (cells + 1) (slots + n.toNatClampNeg) lsA (by rw [e1]; exact hRl) (fre_lv had hb4 hl)
      rw [List.map_cons, fre_map had hb3, show cv (va_up ad (O.emb x).n q) (Value.ref (O.emb x).n) = .ref q from congrArg Value.ref (va_up_self _ _ _)] at g
      exact g
    · cases h
  · cases h
-- stores whose places are numbers
def e_astC (O : Ops σ) (nx : Nat) : Ins σ := fun _ _ _ ls st s k => match st with
  | .int v :: .int i :: .ref a :: r => gd (isK (O.emb s) a 100 && inb0 i ((O.emb s).sh a).2) (k nx ls r (O.wI s a (va_up ((O.emb s).I a) i.toNatClampNeg v)))
  | _ => none
theorem ok_iastC (X : Cx G A own cc nL p s m args c) (hO : OpsOK O Nf Sf) (d : decode cc pc = .ok (.iastore, 1)) (hn : pc + 1 = nx) : OKi G A nL n0 sl0 ad0 p l e R s m args below meth c Q O ret r pc (e_astC O nx) := by
  intro ls st x k h
  refine ok_iast (O := O) (ret := ret) (r := r) X hO d hn ls st x k ?_
  unfold e_astC at h
  unfold e_ast
  rw [inb_eq]
  exact h
def e_iincC (i : Nat) (d : Int32) (nx : Nat) : Ins σ := fun _ _ _ ls st s k => match ls[i]? with
  | some (some (.int x)) => gd (nlt i ls.length) (k nx (st1 ls i (.int (x + d))) st s)
  | _ => none
theorem ok_iincC (X : Cx G A own cc nL p s m args c) {i : Nat} {n : Int} {dl : Int32} (d : decode cc pc = .ok (.iinc i n, 3)) (hd : Int32.ofInt n = dl) (hn : pc + 3 = nx) : OKi G A nL n0 sl0 ad0 p l e R s m args below meth c Q O ret r pc (e_iincC i dl nx) := by
  intro ls st x k h
  refine ok_iinc (O := O) (ret := ret) (r := r) X d hd hn ls st x k ?_
  unfold e_iincC at h
  unfold e_iinc
  simp only [aAdd_eq]
  exact h
def e_aastC (O : Ops σ) (nx : Nat) : Ins σ := fun _ _ _ ls st s k => match st with
  | .ref v :: .int i :: .ref a :: r => gd (isK (O.emb s) a 104 && inb0 i ((O.emb s).sh a).2 && isK (O.emb s) v 2) (match O.wR s a i.toNatClampNeg v with
    | some s' => k nx ls r s'
    | none => none)
  | _ => none
theorem ok_aastC (X : Cx G A own cc nL p s m args c) (hO : OpsOK O Nf Sf) (d : decode cc pc = .ok (.aastore, 1)) (hn : pc + 1 = nx) : OKi G A nL n0 sl0 ad0 p l e R s m args below meth c Q O ret r pc (e_aastC O nx) := by
  intro ls st x k h hk ad H locs cells slots lsA hR hl
  subst hn
  unfold e_aastC at h
  split at h
  · rename_i v i a q
    obtain ⟨hb, h⟩ := gd_some h
    simp only [Bool.and_eq_true] at hb
    obtain ⟨g1, g2⟩ := isK_of hb.1.1
    obtain ⟨v1, v2⟩ := isK_of hb.2
    have hin : vp_in i ((O.emb x).sh a).2 := inb_of (by rw [inb_eq]; exact hb.1.2)
    split at h
    · rename_i x' hx'
      refine va_astq (r := (RX2, TX2, 4)) (vs := fsO ad (O.emb x) v) X.1 X.2.1 X.2.2.2.2.2.1 hR.1 hR.2.1 hR.2.2.1 a 4 v 2 (by rw [wsA_get g1, cE_ref g2 (by decide)]) rfl (by rw [wsA_get v1, cE_obj v2 (by decide)]) rfl hin d (fun H1 locs1 hP hD hS => ?_)
      refine hk _ _ _ _ h ad H1 locs1 cells slots lsA ?_ hl
      rw [hO.2.2.1 _ _ _ _ _ hx']
      refine hR.wR v1 ?_ hP hD hS
      rw [cE_ref (h := (O.emb x).wR a (va_up ((O.emb x).R a) i.toNatClampNeg (some v))) (kd := 104) g2 (by decide)]
      refine congrArg (fun z => Sum.inl (G.cy 4, ((O.emb x).sh a).2, Sum.inr (Sum.inr (Sum.inr (Sum.inr z))))) (funext fun j => ?_)
      show (va_up (O.emb x).R a (va_up ((O.emb x).R a) i.toNatClampNeg (some v)) a j).map ad = va_up (fun j => ((O.emb x).R a j).map ad) i.toNatClampNeg (some (ad v)) j
      rw [va_up_self]
      unfold va_up
      split <;> rfl
    · cases h
  · cases h
theorem ok_obj (X : Cx G A own cc nL p s m args c) {idx : Nat} (hl0 : Cond.methodLink own idx objectInit ∈ TB) (him : Cond.instanceMethod objectInit ∈ TB) (hcd : Cond.code objectInit ⟨#[0xb1]⟩ 1 none ∈ TB) (hRm : 1 ≤ R.frames ∧ 26 ≤ R.locals) (d : decode cc pc = .ok (.invokespecial idx, 3)) (hn : pc + 3 = nx) : OKi G A nL n0 sl0 ad0 p l e R s m args below meth c Q O ret r pc (e_obj nx) := by
  intro ls st x k h hk ad H locs cells slots lsA hR hl
  subst hn
  unfold e_obj at h
  split at h
  · rename_i a q
    obtain ⟨hb, h⟩ := gd_some h
    have hb := Nat.le_of_ble_eq_true hb
    refine W.objInit X.1 X.2.1 X.2.2.2.1 (X.2.2.2.2.1 _ hl0) (X.2.2.2.2.1 _ him) (X.2.2.2.2.1 _ hcd) rfl (by rw [X.2.2.1]; exact hl.1) rfl d hRm.1 ?_ (hk _ _ _ _ h ad H locs cells slots lsA hR hl)
    have := lv_room (m := m) (pc := pc) (ls := lsA) (rest := (Value.ref a :: q).map (cv ad)) (st := q.map (cv ad)) (by rw [cat_sum]; exact hb)
    omega
  · cases h
/-- invokespecial of a constructor that makes cells -/
def e_callI (O : Ops σ) (Nf Sf : Nat) (cal : Cal σ) (y na ci nx : Nat) : Ins σ := fun ρ _ _ ls st s k => match st.drop na with
  | .ref b :: r => gd (Nat.beq (st.take na).length na && Nat.ble (r.map fun v => v.category).sum 8 && isK (O.emb s) b ci) (cal ρ y (.ref b :: (st.take na).reverse) s (fun rv s' => match rv with
    | none => gd (r.all (fre (O.emb s).n (O.emb s').n) && freL (O.emb s).n (O.emb s').n ls && Nat.ble (O.emb s').n Nf && Nat.ble (O.emb s').sl Sf) (k nx ls r s')
    | some _ => none))
  | _ => none
theorem ok_callI (X : Cx G A own cc nL p s m args c) (hcal : calOK l G O D cal) (hNf : Nf ≤ n0 + R.cells) (hSf : Sf ≤ sl0 + R.slots) {y na idx ci : Nat} {Y : Md} (hY : md y = Y) (hrt : Y.2.2.2 = none) (hnm : Y.1.name = "<init>") (hcd : Cond.code Y.1 Y.2.1 Y.2.2.1 Y.2.2.2 ∈ TB) (hln : Cond.methodLink own idx Y.1 ∈ TB) (hini : Cond.initialized Y.1.cls ∈ TB) (him : Cond.instanceMethod Y.1 ∈ TB) (hd : Y.1.cls ≠ "java/lang/invoke/MethodHandle" ∧ Y.1.cls ≠ "java/lang/invoke/VarHandle" ∧ (parseMethodDescriptor Y.1.desc).map (fun d => d.parameters.length) = some na) (hRm : D + 1 ≤ R.frames ∧ 8 + (Y.2.2.1 + 11) + 40 * D ≤ R.locals) (d : decode cc pc = .ok (.invokespecial idx, 3)) (hn : pc + 3 = nx) : OKi G A nL n0 sl0 ad0 p l e R s m args below meth c Q O ret r pc (e_callI O Nf Sf cal y na ci nx) := by
  intro ls st x k h hk ad H locs cells slots lsA hR hl
  subst hn
  subst hY
  unfold e_callI at h
  split at h
  · rename_i b q hdr
    obtain ⟨hb, h⟩ := gd_some h
    simp only [Bool.and_eq_true] at hb
    have hna := Nat.eq_of_beq_eq_true hb.1.1
    have hsum := Nat.le_of_ble_eq_true hb.1.2
    obtain ⟨rv, x', hkr, hM⟩ := hcal _ _ _ _ _ _ h
    cases rv with
    | some v => cases hkr
    | none =>
      obtain ⟨hg, hkr⟩ := gd_some hkr
      simp only [Bool.and_eq_true] at hg
      have hg3 := Nat.le_of_ble_eq_true hg.1.2
      have hg4 := Nat.le_of_ble_eq_true hg.2
      obtain ⟨m1, m2, m3, hM⟩ := hM
      have hM := hM ad H.size hR.2.2.2.1 hR.2.2.2.2.1
      have k6 := hR.2.2.2.2.2.1
      have k7 := hR.2.2.2.2.2.2.1
      have hst2 : st.map (cv ad) = (((st.take na).reverse.map (cv ad)).reverse) ++ (.ref (ad b) :: q.map (cv ad)) := by
        rw [← List.map_reverse, List.reverse_reverse, show (Value.ref (ad b) :: q.map (cv ad)) = (st.drop na).map (cv ad) by rw [hdr]; rfl, ← List.map_append, List.take_append_drop]
      have hcb := TB_call (R := R) (s := s) (args := args) (mc := (O.emb x').n - (O.emb x).n) (ms := (O.emb x').sl - (O.emb x).sl) X.2.2.2.2.1 hcd hln hini hd hRm
      rw [hrt] at hcb hM
      refine call_go (va_runI (As := (st.take na).reverse.map (cv ad)) (rest := q.map (cv ad)) ⟨X.1, X.2.1, X.2.2.1, X.2.2.2.1, X.2.2.2.2.1⟩ hM ⟨hcb, hnm, X.2.2.2.2.1 _ him⟩ ⟨PcA.blind, PcA.at X hR rfl⟩ rfl (by simpa using hna) hl.1 hst2 (lv_room (by rw [cat_sum]; exact hsum)) d ⟨by omega, by omega⟩) hR X.2.2.2.2.2.2.1 (by omega) (by omega) m3 (fun ad' H1 locs1 g1 g2 => ?_)
      have g := hk _ _ _ _ hkr ad' H1 locs1 _ _ lsA g2 (fre_lv g1 hg.1.1.2 hl)
      rw [fre_map g1 hg.1.1.1] at g
      exact g
  · cases h
/-- invokestatic of a method that makes nothing -/
def e_callSI (O : Ops σ) (Nf Sf : Nat) (cal : Cal σ) (y na nx : Nat) : Ins σ := fun ρ _ _ ls st s k => gd (Nat.beq (st.take na).length na && Nat.ble ((st.drop na).map fun v => v.category).sum 8 && Nat.ble (O.emb s).n Nf && Nat.ble (O.emb s).sl Sf) (cal ρ y (st.take na).reverse s (fun rv s' => match rv with
    | none => gd (Nat.beq (O.emb s').n (O.emb s).n && Nat.beq (O.emb s').sl (O.emb s).sl) (k nx ls (st.drop na) s')
    | some _ => none))
theorem ok_callSI (X : Cx G A own cc nL p s m args c) (hcal : calOK l G O D cal) (hNf : Nf ≤ n0 + R.cells) (hSf : Sf ≤ sl0 + R.slots) {y na idx : Nat} {Y : Md} (hY : md y = Y) (hcd : Cond.code Y.1 Y.2.1 Y.2.2.1 Y.2.2.2 ∈ TB) (hln : Cond.methodLink own idx Y.1 ∈ TB) (hini : Cond.initialized Y.1.cls ∈ TB) (hst : Cond.static Y.1 ∈ TB) (hd : Y.1.cls ≠ "java/lang/invoke/MethodHandle" ∧ Y.1.cls ≠ "java/lang/invoke/VarHandle" ∧ (parseMethodDescriptor Y.1.desc).map (fun d => d.parameters.length) = some na) (hRm : D + 1 ≤ R.frames ∧ 8 + (Y.2.2.1 + 11) + 40 * D ≤ R.locals) (d : decode cc pc = .ok (.invokestatic idx, 3)) (hn : pc + 3 = nx) : OKi G A nL n0 sl0 ad0 p l e R s m args below meth c Q O ret r pc (e_callSI O Nf Sf cal y na nx) := by
  intro ls st x k h hk ad H locs cells slots lsA hR hl
  subst hn
  subst hY
  unfold e_callSI at h
  obtain ⟨hb, h⟩ := gd_some h
  simp only [Bool.and_eq_true] at hb
  have hna := Nat.eq_of_beq_eq_true hb.1.1.1
  have hsum := Nat.le_of_ble_eq_true hb.1.1.2
  have hn1 := Nat.le_of_ble_eq_true hb.1.2
  have hn2 := Nat.le_of_ble_eq_true hb.2
  obtain ⟨rv, x', hkr, hM⟩ := hcal _ _ _ _ _ _ h
  cases rv with
  | some v => cases hkr
  | none =>
    obtain ⟨hg, hkr⟩ := gd_some hkr
    rw [Bool.and_eq_true] at hg
    have e1 := Nat.eq_of_beq_eq_true hg.1
    have e2 := Nat.eq_of_beq_eq_true hg.2
    obtain ⟨m1, m2, m3, hM⟩ := hM
    have hM := hM ad H.size hR.2.2.2.1 hR.2.2.2.2.1
    have k6 := hR.2.2.2.2.2.1
    have k7 := hR.2.2.2.2.2.2.1
    have hst2 : st.map (cv ad) = (((st.take na).reverse.map (cv ad)).reverse) ++ (st.drop na).map (cv ad) := by
      rw [← List.map_reverse, List.reverse_reverse, ← List.map_append, List.take_append_drop]
    have z1 : (O.emb x').n - (O.emb x).n = 0 := by omega
    have z2 : (O.emb x').sl - (O.emb x).sl = 0 := by omega
    rw [z1, z2] at hM
    refine call_go (mc := 0) (ms := 0) (va_runS (As := (st.take na).reverse.map (cv ad)) (rest := (st.drop na).map (cv ad)) ⟨X.1, X.2.1, X.2.2.1, X.2.2.2.1, X.2.2.2.2.1⟩ hM ⟨TB_call X.2.2.2.2.1 hcd hln hini hd hRm, X.2.2.2.2.1 _ hst⟩ ⟨PcA.blind, PcA.at X hR rfl⟩ rfl (by simpa using hna) hl.1 hst2 (lv_room (by rw [cat_sum]; exact hsum)) d ⟨by omega, by omega⟩) hR X.2.2.2.2.2.2.1 (by omega) (by omega) m3 (fun ad' H1 locs1 g1 g2 => ?_)
    have had : ad' = ad := funext fun i => g1 i (by omega)
    subst had
    exact hk _ _ _ _ hkr ad' H1 locs1 _ _ lsA g2 hl
-- new long[n][k]
theorem vaP_of {ad : Nat → Nat} {h : AH} {H : Heap} (hh : ∀ i, i < h.n → va_at G.D vwCl (ad i, cE G ad h i) H) : va_P G.D vwCl (wsA G ad h) H := by
  intro i q hq
  have hi : i < h.n := by
    have := (List.getElem?_eq_some_iff.mp hq).1
    rw [wsA_len] at this
    exact this
  rw [wsA_get hi] at hq
  cases hq
  exact hh i hi
theorem vaD_of {ad : Nat → Nat} {h : AH} (h1 : ∀ i j, i < h.n → j < h.n → ad i = ad j → i = j) (h2 : ∀ i, i < h.n → A (ad i)) : va_D A (wsA G ad h) := by
  have key : ∀ (i : Nat) (q : Nat × va_E), (wsA G ad h)[i]? = some q → i < h.n ∧ q.1 = ad i := by
    intro i q hq
    have hi : i < h.n := by
      have := (List.getElem?_eq_some_iff.mp hq).1
      rw [wsA_len] at this
      exact this
    rw [wsA_get hi] at hq
    cases hq
    exact ⟨hi, rfl⟩
  refine ⟨fun i j x y hi hj hxy => ?_, fun i q hq => ?_⟩
  · obtain ⟨a1, a2⟩ := key i x hi
    obtain ⟨b1, b2⟩ := key j y hj
    exact h1 i j a1 b1 (by rw [← a2, ← b2]; exact hxy)
  · obtain ⟨a1, a2⟩ := key i q hq
    rw [a2]
    exact h2 i a1
def mnAH (h : AH) (N K : Nat) : AH := (h.n + 1 + N, h.sl + N + N * K, (fun a => bif nlt a h.n then h.sh a else bif Nat.beq a h.n then (105, N) else (101, K)), (fun a => bif nlt a h.n then h.I a else fun _ => 0), (fun a => bif nlt a h.n then h.L a else fun _ => 0), (fun a => bif nlt a h.n then h.R a else bif Nat.beq a h.n then (fun j => bif nlt j N then some (h.n + 1 + j) else none) else fun _ => none))
def e_mnew (Nf Sf nx : Nat) : Ins AH := fun _ _ _ ls st h k => match st with
  | .int m :: .int n :: r => gd (!(decide (n < 0)) && !(decide (m < 0)) && Nat.ble n.toNatClampNeg 1000 && Nat.ble m.toNatClampNeg 1000 && Nat.ble (h.n + 1 + n.toNatClampNeg) Nf && Nat.ble (h.sl + n.toNatClampNeg + n.toNatClampNeg * m.toNatClampNeg) Sf && Nat.ble (h.n + 1 + n.toNatClampNeg) 200 && (r.all (fre h.n (h.n + 1 + n.toNatClampNeg)) && freL h.n (h.n + 1 + n.toNatClampNeg) ls)) (k nx ls (.ref h.n :: r) (mnAH h n.toNatClampNeg m.toNatClampNeg))
  | _ => none
theorem vr_outer' (c : ClassId) (N h0 : Nat) : ∀ i : Nat, Jvm.Free.Multi.outerC c N h0 i = arrV c N (fun j => va_rf (if j < i then some (h0 + 1 + j) else none))
  | 0 => by
    show ({ cls := c, slots := Array.replicate N .null, vm := .none } : Cell) = _
    rw [arrV_new]
    refine congrArg (arrV c N) (funext fun j => ?_)
    simp [va_rf]
  | i + 1 => by
    show (Jvm.Free.Multi.outerC c N h0 i).setSlot i (.ref (h0 + 1 + i)) = _
    rw [vr_outer' c N h0 i, arrV_store]
    refine congrArg (arrV c N) (funext fun j => ?_)
    by_cases e : j = i
    · subst e
      simp [updV, va_rf]
    · by_cases h : j < i
      · simp [updV, e, h, Nat.lt_succ_of_lt h]
      · simp [updV, e, h, show ¬ j < i + 1 by omega]
theorem nlt_t {a b : Nat} (h : a < b) : nlt a b = true := Nat.ble_eq_true_of_le h
theorem nlt_f {a b : Nat} (h : ¬ a < b) : nlt a b = false := by
  cases hb : nlt a b
  · rfl
  · exact absurd (Nat.le_of_ble_eq_true hb) h
theorem nbeq_f {a b : Nat} (h : a ≠ b) : Nat.beq a b = false := by
  cases hb : Nat.beq a b
  · rfl
  · exact absurd (Nat.eq_of_beq_eq_true hb) h
theorem ok_mnew (X : Cx G A own cc nL p s m args c) {ret : Option Value → AH → Option ρ} (hNf : Nf ≤ n0 + R.cells) (hSf : Sf ≤ sl0 + R.slots) {idx : Nat} (hq : Cond.classLink own idx "[[J" ∈ TB) (d : decode cc pc = .ok (.multianewarray idx 2, 4)) (hn : pc + 4 = nx) {M1 M2 : Nat} : OKi G A nL n0 sl0 ad0 p l e R s m args below meth c Q (opsC M1 M2) ret r pc (e_mnew Nf Sf nx) := by
  intro ls st x k h hk ad H locs cells slots lsA hR hl
  subst hn
  unfold e_mnew at h
  split at h
  · rename_i kk n rest
    obtain ⟨hb, h⟩ := gd_some h
    simp only [Bool.and_eq_true] at hb
    obtain ⟨⟨⟨⟨⟨⟨⟨b1, b2⟩, b3⟩, b4⟩, b5⟩, b6⟩, b7⟩, b8, b9⟩ := hb
    have b1 : ¬ n < 0 := by simpa using b1
    have b2 : ¬ kk < 0 := by simpa using b2
    have b3 := Nat.le_of_ble_eq_true b3
    have b4 := Nat.le_of_ble_eq_true b4
    have b5 := Nat.le_of_ble_eq_true b5
    have b6 := Nat.le_of_ble_eq_true b6
    have b7 := Nat.le_of_ble_eq_true b7
    obtain ⟨k1, k2, k3, k4, k5, k6, k7, k8⟩ := hR
    have k1 : va_P G.D vwCl (wsA G ad x) H := k1
    have k2 : va_D A (wsA G ad x) := k2
    have k4 : clo x := k4
    have k6 : cells + n0 = x.n := k6
    have k7 : slots + sl0 = x.sl := k7
    have k8 : ∀ i, (i < n0 ∨ x.n ≤ i) → ad i = ad0 i := k8
    show W p l e R s m args below meth c H locs cells slots Q (F0 m pc lsA (.int kk :: .int n :: rest.map (cv ad)))
    intro T hT Xs
    obtain ⟨vm₁, cA, comp, -, fA, fC, -, -, X', step⟩ := Xs.multianewarray2F X.1 (ty := .long) X.2.2.2.1 (X.2.2.2.2.1 _ hq) X.2.2.2.2.2.2.2.2.2.2.2.2.2.2.2 (X.2.2.2.2.1 _ wa_long) (g := F0 m pc lsA (.int kk :: .int n :: rest.map (cv ad))) rfl (by rw [X.2.1]; exact d) rfl b1 b2 (by omega) (by have : componentBytes .long = 8 := rfl; rw [this]; omega) (by omega) rfl rfl (by omega) (by omega)
    have hcomp : comp = G.cy 1 := Option.some.inj (fC.symm.trans (X.2.2.2.2.2.1.2 1 _ rfl).2)
    have hcA : cA = G.cy 5 := Option.some.inj (fA.symm.trans (X.2.2.2.2.2.1.2 5 _ rfl).2)
    subst hcomp hcA
    generalize hN : n.toNatClampNeg = N at *
    generalize hKK : kk.toNatClampNeg = K at *
    have hTh : (T.setVm vm₁).heap = H := hT
    generalize hF : Jvm.Free.Multi.fill (T.setVm vm₁) (G.cy 5) (G.cy 1) N K (defaultValue .long) N = F at X' step
    obtain ⟨f1, f2, -, -⟩ := Jvm.Free.Multi.fill_facts (T.setVm vm₁) (G.cy 5) (G.cy 1) N K (defaultValue .long) N
    rw [hF, hTh] at f1 f2
    have hold : ∀ x : Nat, x < H.size → F.heap[x]? = H[x]? := fun x hx => by
      have := Jvm.Free.Multi.fill_old (T.setVm vm₁) (G.cy 5) (G.cy 1) N K (defaultValue .long) (a := x) (by rw [hTh]; exact hx) N
      rw [hF, hTh] at this
      exact this
    have hrow : ∀ j : Nat, j < N → F.heap[H.size + 1 + j]? = some (Jvm.Free.Multi.innerC (G.cy 1) K (defaultValue .long)) := fun j hj => by
      have := Jvm.Free.Multi.fill_inner (T.setVm vm₁) (G.cy 5) (G.cy 1) N K (defaultValue .long) N j hj
      rw [hF, hTh] at this
      exact this
    rw [vr_outer'] at f2
    have hinner : Jvm.Free.Multi.innerC (G.cy 1) K (defaultValue .long) = arrV (G.cy 1) K (fun _ => .long 0) := by
      show ({ cls := G.cy 1, slots := Array.replicate K (defaultValue .long), vm := .none } : Cell) = _
      rw [arrV_new]
      rfl
    rw [hinner] at hrow
    have hlt : ∀ i, i < x.n → ad i < H.size := fun i hi => (k1 i _ (wsA_get hi)).lt
    have hinj : ∀ i j, i < x.n → j < x.n → ad i = ad j → i = j := fun i j hi hj e => k2.1 i j _ _ (wsA_get hi) (wsA_get hj) e
    obtain ⟨ad', had⟩ : ∃ ad' : Nat → Nat, ad' = fun i => if i < x.n ∨ x.n + 1 + N ≤ i then ad i else H.size + (i - x.n) := ⟨_, rfl⟩
    have hag : ∀ i, (i < x.n ∨ x.n + 1 + N ≤ i) → ad' i = ad i := fun i hi => by rw [had]; exact if_pos hi
    have hnew : ∀ i, x.n ≤ i → i < x.n + 1 + N → ad' i = H.size + (i - x.n) := fun i h1 h2 => by rw [had]; exact if_neg (by omega)
    have hn' : (mnAH x N K).n = x.n + 1 + N := rfl
    have hcold : ∀ i, i < x.n → cE G ad' (mnAH x N K) i = cE G ad x i := by
      intro i hi
      have hS : (mnAH x N K).sh i = x.sh i := by show (bif nlt i x.n then _ else _) = _; rw [nlt_t hi]; rfl
      have hI : (mnAH x N K).I i = x.I i := by show (bif nlt i x.n then _ else _) = _; rw [nlt_t hi]; rfl
      have hL : (mnAH x N K).L i = x.L i := by show (bif nlt i x.n then _ else _) = _; rw [nlt_t hi]; rfl
      have hR0 : (mnAH x N K).R i = x.R i := by show (bif nlt i x.n then _ else _) = _; rw [nlt_t hi]; rfl
      have hR : ∀ j, ((mnAH x N K).R i j).map ad' = (x.R i j).map ad := by
        intro j
        rw [hR0]
        cases hr : x.R i j with
        | none => rfl
        | some b => exact congrArg some (hag b (Or.inl (k4 i j b hr)))
      unfold cE fsO fV
      simp only [hS, hI, hL, hR]
    have hRl : Rl G A s n0 sl0 ad0 ad' (mnAH x N K) F.heap locs (cells + 1 + N) (slots + N + N * K) := by
      refine ⟨vaP_of fun i hi => ?_, vaD_of (fun i j hi hj hij => ?_) (fun i hi => ?_), ⟨?_, fun q h1 h2 => ?_, k3.2.2⟩, fun i j b hb => ?_, fun j => ?_, ?_, ?_, fun i hi => ?_⟩
      · rw [hn'] at hi
        by_cases h1 : i < x.n
        · rw [hcold i h1, hag i (Or.inl h1)]
          exact (k1 i _ (wsA_get h1)).kept (hold _ (hlt i h1))
        · by_cases h2 : i = x.n
          · subst h2
            have hS : (mnAH x N K).sh x.n = (105, N) := by show (bif nlt x.n x.n then _ else bif Nat.beq x.n x.n then _ else _) = _; rw [nlt_f (by omega), Nat.beq_refl]; rfl
            have hR0 : (mnAH x N K).R x.n = fun j => bif nlt j N then some (x.n + 1 + j) else none := by show (bif nlt x.n x.n then _ else bif Nat.beq x.n x.n then _ else _) = _; rw [nlt_f (by omega), Nat.beq_refl]; rfl
            rw [cE_ref (h := mnAH x N K) (kd := 105) (by rw [hS]) (by decide), hS, hR0, hnew x.n (Nat.le_refl _) (by omega)]
            show F.heap[H.size + (x.n - x.n)]? = some (vp_cell (G.cy 5) (N, .inr (.inr (.inr (.inr (fun j => Option.map ad' (bif nlt j N then some (x.n + 1 + j) else none)))))))
            rw [vp_cell_q, Nat.sub_self, Nat.add_zero, f2]
            refine congrArg (fun z => some (arrV (G.cy 5) N z)) (funext fun j => ?_)
            by_cases hj : j < N
            · rw [if_pos hj, nlt_t hj]
              show _ = va_rf (some (ad' (x.n + 1 + j)))
              rw [hnew _ (by omega) (by omega), show H.size + (x.n + 1 + j - x.n) = H.size + 1 + j by omega]
            · rw [if_neg hj, nlt_f hj]
              rfl
          · have hS : (mnAH x N K).sh i = (101, K) := by show (bif nlt i x.n then _ else bif Nat.beq i x.n then _ else _) = _; rw [nlt_f h1, nbeq_f h2]; rfl
            have hL : (mnAH x N K).L i = fun _ => 0 := by show (bif nlt i x.n then _ else _) = _; rw [nlt_f h1]; rfl
            rw [cE_long (h := mnAH x N K) (by rw [hS]), hS, hL, hnew i (by omega) hi]
            show F.heap[H.size + (i - x.n)]? = some (vp_cell (G.cy 1) (K, .inr (.inl (fun _ => 0))))
            rw [vp_cell_l]
            rw [show H.size + (i - x.n) = H.size + 1 + (i - x.n - 1) by omega]
            exact hrow _ (by omega)
      · rw [hn'] at hi hj
        by_cases h1 : i < x.n
        · by_cases h2 : j < x.n
          · rw [hag i (Or.inl h1), hag j (Or.inl h2)] at hij
            exact hinj i j h1 h2 hij
          · rw [hag i (Or.inl h1), hnew j (by omega) hj] at hij
            have := hlt i h1
            omega
        · by_cases h2 : j < x.n
          · rw [hag j (Or.inl h2), hnew i (by omega) hi] at hij
            have := hlt j h2
            omega
          · rw [hnew i (by omega) hi, hnew j (by omega) hj] at hij
            omega
      · rw [hn'] at hi
        by_cases h1 : i < x.n
        · rw [hag i (Or.inl h1)]
          exact k2.2 i _ (wsA_get h1)
        · rw [hnew i (by omega) hi]
          exact X.2.2.2.2.2.2.1 _ (Nat.le_trans k3.1 (by omega))
      · rw [f1]
        exact Nat.le_trans k3.1 (by omega)
      · rw [hold q (Nat.lt_of_lt_of_le h1 k3.1)]
        exact k3.2.1 q h1 h2
      · rw [hn']
        by_cases h1 : i < x.n
        · have hR0 : (mnAH x N K).R i = x.R i := by show (bif nlt i x.n then _ else _) = _; rw [nlt_t h1]; rfl
          rw [hR0] at hb
          have := k4 i j b hb
          omega
        · by_cases h2 : i = x.n
          · subst h2
            have hR0 : (mnAH x N K).R x.n = fun j => bif nlt j N then some (x.n + 1 + j) else none := by show (bif nlt x.n x.n then _ else bif Nat.beq x.n x.n then _ else _) = _; rw [nlt_f (by omega), Nat.beq_refl]; rfl
            rw [hR0] at hb
            by_cases hj : j < N
            · simp only [nlt_t hj, cond_true] at hb
              cases hb
              omega
            · simp only [nlt_f hj, cond_false] at hb
              cases hb
          · have hR0 : (mnAH x N K).R i = fun _ => none := by show (bif nlt i x.n then _ else bif Nat.beq i x.n then _ else _) = _; rw [nlt_f h1, nbeq_f h2]; rfl
            rw [hR0] at hb
            cases hb
      · rw [hag _ (Or.inr (by omega))]
        exact k5 j
      · show cells + 1 + N + n0 = x.n + 1 + N
        omega
      · show slots + N + N * K + sl0 = x.sl + N + N * K
        omega
      · have hi : i < n0 ∨ x.n + 1 + N ≤ i := hi
        rw [hag i (by omega)]
        exact k8 i (by omega)
    have g := hk _ _ _ _ h ad' F.heap locs (cells + 1 + N) (slots + N + N * K) lsA hRl (fre_lv hag b9 hl)
    rw [List.map_cons, fre_map hag b8, show cv ad' (Value.ref x.n) = .ref H.size by show Value.ref (ad' x.n) = _; rw [hnew x.n (Nat.le_refl _) (by omega), Nat.sub_self, Nat.add_zero]] at g
    obtain ⟨t2, a1, b1⟩ := g F rfl X'
    exact ⟨t2, step t2 (by rw [← hT] at a1; exact a1), b1⟩
  · cases h
end OKN
