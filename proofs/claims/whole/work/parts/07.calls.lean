theorem cat_sum (ad : Nat → Nat) (st : List Value) : ((st.map (cv ad)).map fun v => v.category).sum = (st.map fun v => v.category).sum := by
  rw [List.map_map]
  congr 1
  exact List.map_congr_left fun v _ => cv_cat ad v
theorem cE_arr {G : Gm} {ad : Nat → Nat} {h : AH} {i : Nat} (h1 : 100 ≤ (h.sh i).1) : ∃ z, cE G ad h i = .inl (G.cy ((h.sh i).1 - 100), (h.sh i).2, z) := by
  unfold cE
  rw [if_neg (by omega)]
  exact ⟨_, rfl⟩
theorem tyA_get (G : Gm) {k : Nat} (hk : k < 6) : ∃ ty, (tyA G)[k]? = some (G.cy k, ty) := by
  rcases (show k = 0 ∨ k = 1 ∨ k = 2 ∨ k = 3 ∨ k = 4 ∨ k = 5 by omega) with rfl | rfl | rfl | rfl | rfl | rfl <;> exact ⟨_, rfl⟩
theorem EX.same {G : Gm} {A : Nat → Prop} {u U : State} (hvm : U.vm = u.vm) (hh : U.heap = u.heap) (h : EX G A u) : EX G A U := by
  have hv : u.vm.Alike U.vm := by rw [hvm]; exact Vm.Alike.refl _
  unfold EX
  rw [hh]
  exact ⟨h.1.moved hv, h.2.1.moved hv, h.2.2.1.moved hv, h.2.2.2.1.moved hv, h.2.2.2.2.1.same hvm, h.2.2.2.2.2.1.moved hv, h.2.2.2.2.2.2.1.moved hv, h.2.2.2.2.2.2.2.1.moved hv, h.2.2.2.2.2.2.2.2.moved hv⟩
theorem EX.at {G : Gm} {A B : Nat → Prop} {s U : State} {H : Heap} {locs : List Loc} (h : EX G A s) (hS : va_S A s.heap H locs) (hAB : ∀ q, B q → A q) (hU : U.heap = H) (hW : s.WarmedH U.vm) : EX G B U := by
  have hvm := hW.alike
  have hq : ∀ a : Nat, a < s.heap.size → ¬ A a → U.heap[a]? = s.heap[a]? := fun a h1 h2 => by rw [hU]; exact hS.2.1 a h1 h2
  exact ⟨((h.1.kept hq).narrow hAB).moved hvm, ((h.2.1.kept hq).narrow hAB).moved hvm, ((h.2.2.1.kept hq).narrow hAB).moved hvm, ((h.2.2.2.1.kept hq).narrow hAB).moved hvm, h.2.2.2.2.1.warm hW, ((h.2.2.2.2.2.1.kept hq).narrow hAB).moved hvm, ((h.2.2.2.2.2.2.1.kept hq).narrow hAB).moved hvm, h.2.2.2.2.2.2.2.1.moved hvm, h.2.2.2.2.2.2.2.2.moved hvm⟩
def PcA (G : Gm) (ad : Nat → Nat) (h : AH) (av : List Value) (sz : Nat) : Array Value → State → Prop := va_Pc (av.map (cv ad)) (fun U => U.heap.size = sz ∧ va_P G.D vwCl (wsA G ad h) U.heap ∧ va_K G.D vwCl (tyA G) U ∧ va_D (fun _ => True) (wsA G ad h) ∧ EX G (va_A (wsA G ad h) sz) U)
def QcA (G : Gm) (ad : Nat → Nat) (h h' : AH) (rv : Option Value) (sz : Nat) : Array Value → State → Outcome → State → Prop := fun _ st oc t => (∃ ad' : Nat → Nat, (∀ i, (i < h.n ∨ h'.n ≤ i) → ad' i = ad i) ∧ oc = .returned (rv.map (cv ad')) ∧ va_P G.D vwCl (wsA G ad' h') t.heap ∧ va_K G.D vwCl (tyA G) t ∧ va_D (va_A (wsA G ad h) sz) (wsA G ad' h') ∧ clo h') ∧ va_F (va_A (wsA G ad h) sz) st t
/-- a method's contract: from h with these arguments to h' with this answer -/
def RunsM (l : Launch) (G : Gm) (D : Nat) (y : Md) (h : AH) (av : List Value) (rv : Option Value) (h' : AH) : Prop :=
  h.n ≤ h'.n ∧ h.sl ≤ h'.sl ∧ h'.n ≤ 200 ∧ ∀ (ad : Nat → Nat) (sz : Nat), clo h → (∀ j, ad (200 + j) = G.ex j) → Met l y.1 (Cond.code y.1 y.2.1 y.2.2.1 y.2.2.2 :: TB) { frames := D, cells := h'.n - h.n, slots := h'.sl - h.sl, locals := 40 * D } (PcA G ad h av sz) (QcA G ad h h' rv sz) (h'.n - h.n) (h'.sl - h.sl) (va_A (wsA G ad h) sz)
def calOK (l : Launch) (G : Gm) {σ : Type} (O : Ops σ) (D : Nat) (cal : Cal σ) : Prop :=
  ∀ (ρ : Type) (y : Nat) (av : List Value) (x : σ) (k : Option Value → σ → Option ρ) (r : ρ), cal ρ y av x k = some r → ∃ rv x', k rv x' = some r ∧ RunsM l G D (md y) (O.emb x) av rv (O.emb x')
theorem TB_call {own : String} {idx : Nat} {y : Md} {R : Room} {s : State} {args : Array Value} {mc ms n D : Nat} (hts : ∀ w ∈ TB, w.before args s = true) (hcd : Cond.code y.1 y.2.1 y.2.2.1 y.2.2.2 ∈ TB) (hln : Cond.methodLink own idx y.1 ∈ TB) (hini : Cond.initialized y.1.cls ∈ TB) (hd : y.1.cls ≠ "java/lang/invoke/MethodHandle" ∧ y.1.cls ≠ "java/lang/invoke/VarHandle" ∧ (parseMethodDescriptor y.1.desc).map (fun d => d.parameters.length) = some n) (hRm : D + 1 ≤ R.frames ∧ 8 + (y.2.2.1 + 11) + 40 * D ≤ R.locals) :
    CallB R s args own idx y.1 y.2.1 y.2.2.1 y.2.2.2 (Cond.code y.1 y.2.1 y.2.2.1 y.2.2.2 :: TB) { frames := D, cells := mc, slots := ms, locals := 40 * D } mc ms n := by
  refine callB_of (Ts := TB) (ws' := TB) n hts (fun w hw => ?_) rfl rfl rfl (hts _ hini) (hts _ hln) hd hRm
  rcases List.mem_cons.mp hw with rfl | hw
  · exact ⟨hcd, good_of_word (TBgood _ hcd)⟩
  · exact ⟨hw, good_of_word (TBgood _ hw)⟩
section OKC
variable {ad0 : Nat → Nat} {G : Gm} {A : Nat → Prop} {own : String} {cc : ByteArray} {nL n0 sl0 : Nat} {p : Program} {l : Launch} {e : Env} {R : Room} {s : State} {m : MethodId} {args : Array Value} {below : List Frame} {meth : Method} {c : Code} {Q : State → Prop} {σ ρ : Type} {O : Ops σ} {ret : Option Value → σ → Option ρ} {r : ρ} {pc nx : Nat} {Nf Sf D : Nat} {cal : Cal σ}
theorem ok_alen (X : Cx G A own cc nL p s m args c) (d : decode cc pc = .ok (.arraylength, 1)) (hn : pc + 1 = nx) : OKi G A nL n0 sl0 ad0 p l e R s m args below meth c Q O ret r pc (e_alen O nx) := by
  intro ls st x k h hk ad H locs cells slots lsA hR hl
  subst hn
  unfold e_alen at h
  split at h
  · rename_i a q
    obtain ⟨hb, h⟩ := gd_some h
    unfold isA at hb
    simp only [Bool.and_eq_true] at hb
    have g1 : a < (O.emb x).n := Nat.le_of_ble_eq_true hb.1
    have g2 : 100 ≤ ((O.emb x).sh a).1 := Nat.le_of_ble_eq_true hb.2.1
    have g3 : ((O.emb x).sh a).1 < 106 := Nat.le_of_ble_eq_true hb.2.2
    obtain ⟨z, hz⟩ := cE_arr (G := G) (ad := ad) g2
    obtain ⟨ty, ht⟩ := tyA_get G (k := ((O.emb x).sh a).1 - 100) (by omega)
    exact va_alen (x := (((O.emb x).sh a).2, z)) X.1 X.2.1 X.2.2.2.2.2.1 hR.1 a (((O.emb x).sh a).1 - 100) (by rw [wsA_get g1, hz]) ht rfl d (hk _ _ _ _ h ad H locs cells slots lsA hR hl)
  · cases h
theorem ok_stat0 (X : Cx G A RX0 cc nL p s m args c) {idx : Nat} (hw : Cond.fieldLink RX0 idx RX0 "ABOVE" "[I" ∈ TB) (d : decode cc pc = .ok (.getstatic idx, 3)) (hn : pc + 3 = nx) : OKi G A nL n0 sl0 ad0 p l e R s m args below meth c Q O ret r pc (e_stat 0 nx) := by
  intro ls st x k h hk ad H locs cells slots lsA hR hl
  subst hn
  have g := hk _ _ _ _ h ad H locs cells slots lsA hR hl
  rw [List.map_cons, show cv ad (Value.ref (200 + 0)) = .ref (G.ex 0) from congrArg Value.ref (hR.2.2.2.2.1 0)] at g
  exact va_gets X.1 X.2.1 X.2.2.2.2.2.2.2.1 hR.2.2.1 X.2.2.2.1 (X.2.2.2.2.1 _ hw) (fun _ z => z) d g
theorem ok_stat1 (X : Cx G A RX0 cc nL p s m args c) {idx : Nat} (hw : Cond.fieldLink RX0 idx RX0 "OWN" "[I" ∈ TB) (d : decode cc pc = .ok (.getstatic idx, 3)) (hn : pc + 3 = nx) : OKi G A nL n0 sl0 ad0 p l e R s m args below meth c Q O ret r pc (e_stat 1 nx) := by
  intro ls st x k h hk ad H locs cells slots lsA hR hl
  subst hn
  have g := hk _ _ _ _ h ad H locs cells slots lsA hR hl
  rw [List.map_cons, show cv ad (Value.ref (200 + 1)) = .ref (G.ex 1) from congrArg Value.ref (hR.2.2.2.2.1 1)] at g
  exact va_gets X.1 X.2.1 X.2.2.2.2.2.2.2.2.2.1 hR.2.2.1 X.2.2.2.1 (X.2.2.2.2.1 _ hw) (fun _ z => z) d g
theorem ok_aldX0 (X : Cx G A own cc nL p s m args c) (d : decode cc pc = .ok (.iaload, 1)) (hn : pc + 1 = nx) : OKi G A nL n0 sl0 ad0 p l e R s m args below meth c Q O ret r pc (e_aldX 0 tbA nx) := by
  intro ls st x k h hk ad H locs cells slots lsA hR hl
  subst hn
  unfold e_aldX at h
  split at h
  · rename_i i a q
    obtain ⟨hb, h⟩ := gd_some h
    rw [Bool.and_eq_true] at hb
    have ha : a = 200 + 0 := Nat.eq_of_beq_eq_true hb.1
    rw [List.map_cons, List.map_cons, show cv ad (Value.ref a) = .ref (G.ex 0) by rw [ha]; exact congrArg Value.ref (hR.2.2.2.2.1 0)]
    exact va_ti X.1 X.2.1 X.2.2.2.2.2.2.2.2.1 hR.2.2.1 (inb_of hb.2) rfl d (hk _ _ _ _ h ad H locs cells slots lsA hR hl)
  · cases h
theorem ok_aldX1 (X : Cx G A own cc nL p s m args c) (d : decode cc pc = .ok (.iaload, 1)) (hn : pc + 1 = nx) : OKi G A nL n0 sl0 ad0 p l e R s m args below meth c Q O ret r pc (e_aldX 1 tbO nx) := by
  intro ls st x k h hk ad H locs cells slots lsA hR hl
  subst hn
  unfold e_aldX at h
  split at h
  · rename_i i a q
    obtain ⟨hb, h⟩ := gd_some h
    rw [Bool.and_eq_true] at hb
    have ha : a = 200 + 1 := Nat.eq_of_beq_eq_true hb.1
    rw [List.map_cons, List.map_cons, show cv ad (Value.ref a) = .ref (G.ex 1) by rw [ha]; exact congrArg Value.ref (hR.2.2.2.2.1 1)]
    exact va_ti X.1 X.2.1 X.2.2.2.2.2.2.2.2.2.2.1 hR.2.2.1 (inb_of hb.2) rfl d (hk _ _ _ _ h ad H locs cells slots lsA hR hl)
  · cases h
theorem cpin_of {sp n : Int32} {N : Nat} (h : cpin sp n N = true) : ¬ sp < 0 ∧ sp.toNatClampNeg + n.toNatClampNeg ≤ N := by
  unfold cpin at h
  rw [Bool.and_eq_true] at h
  exact ⟨by simpa using h.1, Nat.le_of_ble_eq_true h.2⟩
theorem ok_copyI (X : Cx G A own cc nL p s m args c) (hO : OpsOK O Nf Sf) {idx : Nat} (hl0 : Cond.methodLink own idx arraycopyName ∈ TB) (hnat : Cond.native arraycopyName ∈ TB) (hst : Cond.static arraycopyName ∈ TB) (hin : Cond.initialized "java/lang/System" ∈ TB) (hRm : 1 ≤ R.frames ∧ 26 ≤ R.locals) (d : decode cc pc = .ok (.invokestatic idx, 3)) (hn : pc + 3 = nx) : OKi G A nL n0 sl0 ad0 p l e R s m args below meth c Q O ret r pc (e_copyI O nx) := by
  intro ls st x k h hk ad H locs cells slots lsA hR hl
  subst hn
  unfold e_copyI at h
  split at h
  · rename_i n dp b sp a q
    obtain ⟨hb, h⟩ := gd_some h
    simp only [Bool.and_eq_true] at hb
    obtain ⟨⟨⟨⟨⟨h1, h2⟩, h3⟩, h4⟩, h5⟩, h6⟩ := hb
    obtain ⟨a1, a2⟩ := isK_of h1
    obtain ⟨b1, b2⟩ := isK_of h2
    obtain ⟨c1, c2⟩ := cpin_of h4
    obtain ⟨d1, d2⟩ := cpin_of h5
    have h6 := Nat.le_of_ble_eq_true h6
    refine va_copyi X.1 X.2.1 (by rw [X.2.2.1, hl.1]) X.2.2.2.1 (X.2.2.2.2.1 _ hl0) (X.2.2.2.2.1 _ hnat) (X.2.2.2.2.1 _ hst) (X.2.2.2.2.1 _ hin) X.2.2.2.2.2.1 hR.1 hR.2.1 hR.2.2.1 a b 0 0 (by rw [wsA_get a1, cE_int a2 (by decide)]) (by rw [wsA_get b1, cE_int b2 (by decide)]) rfl rfl rfl c1 d1 (by simpa using h3) c2 d2 (fun _ _ => rfl) hRm.1 ?_ d (fun H1 locs1 hP hD hS => ?_)
    · rw [cat_sum]
      have : nativeFrameWords "java/lang/System" "arraycopy" 5 = 7 := by decide +kernel
      omega
    · refine hk _ _ _ _ h ad H1 locs1 cells slots lsA ?_ hl
      rw [hO.1]
      exact hR.wI (by rw [cE_int (h := (O.emb x).wI b (va_cpy ((O.emb x).I a) ((O.emb x).I b) sp.toNatClampNeg dp.toNatClampNeg n.toNatClampNeg)) b2 (by decide)]; simp only [AH.n, AH.sl, AH.sh, AH.I, AH.L, AH.R, AH.wI, AH.wL, AH.wR, va_up_self]) hP hD hS
  · cases h
theorem ok_copyL (X : Cx G A own cc nL p s m args c) (hO : OpsOK O Nf Sf) {idx : Nat} (hl0 : Cond.methodLink own idx arraycopyName ∈ TB) (hnat : Cond.native arraycopyName ∈ TB) (hst : Cond.static arraycopyName ∈ TB) (hin : Cond.initialized "java/lang/System" ∈ TB) (hRm : 1 ≤ R.frames ∧ 26 ≤ R.locals) (d : decode cc pc = .ok (.invokestatic idx, 3)) (hn : pc + 3 = nx) : OKi G A nL n0 sl0 ad0 p l e R s m args below meth c Q O ret r pc (e_copyL O nx) := by
  intro ls st x k h hk ad H locs cells slots lsA hR hl
  subst hn
  unfold e_copyL at h
  split at h
  · rename_i n dp b sp a q
    obtain ⟨hb, h⟩ := gd_some h
    simp only [Bool.and_eq_true] at hb
    obtain ⟨⟨⟨⟨⟨h1, h2⟩, h3⟩, h4⟩, h5⟩, h6⟩ := hb
    obtain ⟨a1, a2⟩ := isK_of h1
    obtain ⟨b1, b2⟩ := isK_of h2
    obtain ⟨c1, c2⟩ := cpin_of h4
    obtain ⟨d1, d2⟩ := cpin_of h5
    have h6 := Nat.le_of_ble_eq_true h6
    refine va_copyl X.1 X.2.1 (by rw [X.2.2.1, hl.1]) X.2.2.2.1 (X.2.2.2.2.1 _ hl0) (X.2.2.2.2.1 _ hnat) (X.2.2.2.2.1 _ hst) (X.2.2.2.2.1 _ hin) X.2.2.2.2.2.1 hR.1 hR.2.1 hR.2.2.1 a b 1 1 (by rw [wsA_get a1, cE_long a2]) (by rw [wsA_get b1, cE_long b2]) rfl rfl rfl c1 d1 (by simpa using h3) c2 d2 (fun _ _ => rfl) hRm.1 ?_ d (fun H1 locs1 hP hD hS => ?_)
    · rw [cat_sum]
      have : nativeFrameWords "java/lang/System" "arraycopy" 5 = 7 := by decide +kernel
      omega
    · refine hk _ _ _ _ h ad H1 locs1 cells slots lsA ?_ hl
      rw [hO.2.1]
      exact hR.wL (by rw [cE_long (h := (O.emb x).wL b (va_cpy ((O.emb x).L a) ((O.emb x).L b) sp.toNatClampNeg dp.toNatClampNeg n.toNatClampNeg)) b2]; simp only [AH.n, AH.sl, AH.sh, AH.I, AH.L, AH.R, AH.wI, AH.wL, AH.wR, va_up_self]) hP hD hS
  · cases h
/-- behind a call -/
theorem call_go {ad : Nat → Nat} {h h' : AH} {rv : Option Value} {H : Heap} {locs : List Loc} {cells slots mc ms : Nat} {lsA : Array Slot} {st0 rest : List Value} {a : Array Value} (hr : va_Run p l e R s m args below meth c H locs cells slots mc ms (F0 m pc lsA st0) rest (QcA G ad h h' rv H.size a) (va_A (wsA G ad h) H.size)) (hR : Rl G A s n0 sl0 ad0 ad h H locs cells slots) (hA : ∀ q, s.heap.size ≤ q → A q) (hmc : h.n + mc = h'.n) (hms : h.sl + ms = h'.sl) (hbig : h'.n ≤ 200)
    (kk : ∀ (ad' : Nat → Nat) (H1 : Heap) (locs1 : List Loc), (∀ i, (i < h.n ∨ h'.n ≤ i) → ad' i = ad i) → Rl G A s n0 sl0 ad0 ad' h' H1 locs1 (cells + mc) (slots + ms) → W p l e R s m args below meth c H1 locs1 (cells + mc) (slots + ms) Q (F0 m (pc + 3) lsA ((rv.map (cv ad')).toList ++ rest))) : W p l e R s m args below meth c H locs cells slots Q (F0 m pc lsA st0) := by
  intro T hT X
  obtain ⟨v, st₀, t, T', L, h0, X', hL, e1, e2, ⟨⟨ad', g1, g2, g3, g4, g5, g6⟩, hz, hk⟩, st⟩ := hr T hT X
  cases g2
  rw [h0] at hz hk
  obtain ⟨k1, k2, k3, k4, k5, k6, k7, k8⟩ := hR
  have hF : ∀ q, va_A (wsA G ad h) H.size q → A q := by
    intro q hq
    rcases hq with ⟨k, e9, hq⟩ | hq
    · exact k2.2 k (q, e9) hq
    · exact hA q (Nat.le_trans k3.1 hq)
  have hS1 : va_S A s.heap T'.heap (locs ++ L) := ⟨Nat.le_trans k3.1 (by rw [e1]; exact hz), fun q h1 h2 => by rw [e1, hk q (Nat.lt_of_lt_of_le h1 k3.1) (fun z => h2 (hF q z))]; exact k3.2.1 q h1 h2, fun q hq => by
      rcases List.mem_append.mp hq with h | h
      · exact k3.2.2 q h
      · exact hF _ (hL q h)⟩
  obtain ⟨t2, a1, b1⟩ := kk ad' T'.heap (locs ++ L) g1 ⟨by rw [e1]; exact g3, g5.weaken (fun _ q _ hq => hF q.1 hq), hS1, g6, fun j => by rw [g1 _ (Or.inr (by omega))]; exact k5 j, by omega, by omega, fun i hi => by rw [g1 i (by omega)]; exact k8 i (by omega)⟩ T' rfl X'
  exact ⟨t2, st t2 a1, b1⟩
theorem PcA.blind {ad : Nat → Nat} {h : AH} {av : List Value} {sz : Nat} : FrameBlind (PcA G ad h av sz) := by
  intro a U g mk q
  obtain ⟨q0, q1, qP, qK, qD, qE⟩ := q
  exact ⟨q0, q1, qP, va_K.moved (u := U) (U := U.calling g mk a) (Vm.Alike.refl U.vm) qK, qD, qE.same (u := U) (U := U.calling g mk a) rfl rfl⟩
theorem PcA.at {ad : Nat → Nat} {h : AH} {av : List Value} {H : Heap} {locs : List Loc} {cells slots : Nat} (X : Cx G A own cc nL p s m args c) (hR : Rl G A s n0 sl0 ad0 ad h H locs cells slots) {avc : List Value} (hav : avc = av.map (cv ad)) : ∀ U : State, U.heap = H → s.WarmedH U.vm → PcA G ad h av H.size avc.toArray U := by
  intro U hU hW
  subst hav
  have hF : ∀ q, va_A (wsA G ad h) H.size q → A q := by
    intro q hq
    rcases hq with ⟨k, e9, hq⟩ | hq
    · exact hR.2.1.2 k (q, e9) hq
    · exact X.2.2.2.2.2.2.1 q (Nat.le_trans hR.2.2.1.1 hq)
  exact ⟨rfl, by rw [hU], by rw [hU]; exact hR.1, va_K.moved hW.alike X.2.2.2.2.2.1, hR.2.1.weaken (fun _ _ _ _ => trivial), X.2.2.2.2.2.2.2.at hR.2.2.1 hF hU hW⟩
theorem ok_callS (X : Cx G A own cc nL p s m args c) (hcal : calOK l G O D cal) (hN : ∀ x, (O.emb x).n = n0 ∧ (O.emb x).sl = sl0) {y na idx : Nat} {Y : Md} (hY : md y = Y) (hcd : Cond.code Y.1 Y.2.1 Y.2.2.1 Y.2.2.2 ∈ TB) (hln : Cond.methodLink own idx Y.1 ∈ TB) (hini : Cond.initialized Y.1.cls ∈ TB) (hst : Cond.static Y.1 ∈ TB) (hd : Y.1.cls ≠ "java/lang/invoke/MethodHandle" ∧ Y.1.cls ≠ "java/lang/invoke/VarHandle" ∧ (parseMethodDescriptor Y.1.desc).map (fun d => d.parameters.length) = some na) (hRm : D + 1 ≤ R.frames ∧ 8 + (Y.2.2.1 + 11) + 40 * D ≤ R.locals) (d : decode cc pc = .ok (.invokestatic idx, 3)) (hn : pc + 3 = nx) : OKi G A nL n0 sl0 ad0 p l e R s m args below meth c Q O ret r pc (e_callS cal y na nx) := by
  intro ls st x k h hk ad H locs cells slots lsA hR hl
  subst hn
  subst hY
  unfold e_callS at h
  obtain ⟨hb, h⟩ := gd_some h
  rw [Bool.and_eq_true] at hb
  have hna := Nat.eq_of_beq_eq_true hb.1
  have hsum := Nat.le_of_ble_eq_true hb.2
  obtain ⟨rv, x', hkr, hM⟩ := hcal _ _ _ _ _ _ h
  obtain ⟨m1, m2, m3, hM⟩ := hM
  have hM := hM ad H.size hR.2.2.2.1 hR.2.2.2.2.1
  have e1 := (hN x).1
  have e2 := (hN x').1
  have e3 := (hN x).2
  have e4 := (hN x').2
  have hc0 : cells = 0 := by have := hR.2.2.2.2.2.1; omega
  have hs0 : slots = 0 := by have := hR.2.2.2.2.2.2.1; omega
  have hst2 : st.map (cv ad) = (((st.take na).reverse.map (cv ad)).reverse) ++ (st.drop na).map (cv ad) := by
    rw [← List.map_reverse, List.reverse_reverse, ← List.map_append, List.take_append_drop]
  have z1 : (O.emb x').n - (O.emb x).n = 0 := by omega
  have z2 : (O.emb x').sl - (O.emb x).sl = 0 := by omega
  rw [z1, z2] at hM
  refine call_go (mc := 0) (ms := 0) (va_runS (As := (st.take na).reverse.map (cv ad)) (rest := (st.drop na).map (cv ad)) ⟨X.1, X.2.1, X.2.2.1, X.2.2.2.1, X.2.2.2.2.1⟩ hM ⟨TB_call X.2.2.2.2.1 hcd hln hini hd hRm, X.2.2.2.2.1 _ hst⟩ ⟨PcA.blind, PcA.at X hR rfl⟩ rfl (by simpa using hna) hl.1 hst2 (lv_room (by rw [cat_sum]; exact hsum)) d ⟨by omega, by omega⟩) hR X.2.2.2.2.2.2.1 (by omega) (by omega) m3 (fun ad' H1 locs1 g1 g2 => ?_)
  have had : ad' = ad := funext fun i => g1 i (by omega)
  subst had
  have g := hk _ _ _ _ hkr ad' H1 locs1 _ _ lsA g2 hl
  rw [List.map_append] at g
  cases rv <;> exact g
theorem ok_callV (X : Cx G A own cc nL p s m args c) (hcal : calOK l G O D cal) (hN : ∀ x, (O.emb x).n = n0 ∧ (O.emb x).sl = sl0) {y na idx ci : Nat} {C : String} {T : u_T} {N : Nat} {Y : Md} (hY : md y = Y) (hc : vwCl[ci]? = some (C, T, N)) (h100 : ci < 100) (hC : Y.1.cls = C) (hcd : Cond.code Y.1 Y.2.1 Y.2.2.1 Y.2.2.2 ∈ TB) (hln : Cond.methodLink own idx Y.1 ∈ TB) (hini : Cond.initialized Y.1.cls ∈ TB) (him : Cond.instanceMethod Y.1 ∈ TB) (hsel : Cond.selects Y.1.cls Y.1 Y.1 ∈ TB) (hd : Y.1.cls ≠ "java/lang/invoke/MethodHandle" ∧ Y.1.cls ≠ "java/lang/invoke/VarHandle" ∧ (parseMethodDescriptor Y.1.desc).map (fun d => d.parameters.length) = some na) (hRm : D + 1 ≤ R.frames ∧ 8 + (Y.2.2.1 + 11) + 40 * D ≤ R.locals) (d : decode cc pc = .ok (.invokevirtual idx, 3)) (hn : pc + 3 = nx) : OKi G A nL n0 sl0 ad0 p l e R s m args below meth c Q O ret r pc (e_callV O cal y na ci nx) := by
  intro ls st x k h hk ad H locs cells slots lsA hR hl
  subst hn
  subst hY
  unfold e_callV at h
  split at h
  · rename_i b q hdr
    obtain ⟨hb, h⟩ := gd_some h
    simp only [Bool.and_eq_true] at hb
    have hna := Nat.eq_of_beq_eq_true hb.1.1
    have hsum := Nat.le_of_ble_eq_true hb.1.2
    obtain ⟨k1, k2⟩ := isK_of hb.2
    obtain ⟨rv, x', hkr, hM⟩ := hcal _ _ _ _ _ _ h
    obtain ⟨m1, m2, m3, hM⟩ := hM
    have hM := hM ad H.size hR.2.2.2.1 hR.2.2.2.2.1
    have e1 := (hN x).1
    have e2 := (hN x').1
    have e3 := (hN x).2
    have e4 := (hN x').2
    have hc0 : cells = 0 := by have := hR.2.2.2.2.2.1; omega
    have hs0 : slots = 0 := by have := hR.2.2.2.2.2.2.1; omega
    have hst2 : st.map (cv ad) = (((st.take na).reverse.map (cv ad)).reverse) ++ (.ref (ad b) :: q.map (cv ad)) := by
      rw [← List.map_reverse, List.reverse_reverse, show (Value.ref (ad b) :: q.map (cv ad)) = (st.drop na).map (cv ad) by rw [hdr]; rfl, ← List.map_append, List.take_append_drop]
    have z1 : (O.emb x').n - (O.emb x).n = 0 := by omega
    have z2 : (O.emb x').sl - (O.emb x).sl = 0 := by omega
    rw [z1, z2] at hM
    subst hC
    refine call_go (mc := 0) (ms := 0) (va_runV (C := (md y).1.cls) (As := (st.take na).reverse.map (cv ad)) (rest := q.map (cv ad)) ⟨X.1, X.2.1, X.2.2.1, X.2.2.2.1, X.2.2.2.2.1⟩ hM ⟨TB_call X.2.2.2.2.1 hcd hln hini hd hRm, X.2.2.2.2.1 _ him, X.2.2.2.2.1 _ hsel⟩ ⟨PcA.blind, va_recv X.2.2.2.2.2.1 hR.1 hc (by rw [wsA_get k1, cE_obj k2 h100]), PcA.at X hR rfl⟩ rfl (by simpa using hna) hl.1 hst2 (lv_room (by rw [cat_sum]; exact hsum)) d ⟨by omega, by omega⟩) hR X.2.2.2.2.2.2.1 (by omega) (by omega) m3 (fun ad' H1 locs1 g1 g2 => ?_)
    have had : ad' = ad := funext fun i => g1 i (by omega)
    subst had
    have g := hk _ _ _ _ hkr ad' H1 locs1 _ _ lsA g2 hl
    rw [List.map_append] at g
    cases rv <;> exact g
  · cases h
-- the text: its reference is 202, that of its bytes 203
def e_ldcS (nx : Nat) : Ins σ := fun _ _ _ ls st s k => k nx ls (.ref 202 :: st) s
def e_sval (nx : Nat) : Ins σ := fun _ _ _ ls st s k => match st with
  | .ref a :: r => gd (Nat.beq a 202) (k nx ls (.ref 203 :: r) s)
  | _ => none
def e_scod (nx : Nat) : Ins σ := fun _ _ _ ls st s k => match st with
  | .ref a :: r => gd (Nat.beq a 202) (k nx ls (.int 0 :: r) s)
  | _ => none
def e_slen (nx : Nat) : Ins σ := fun _ _ _ ls st s k => match st with
  | .ref a :: r => gd (Nat.beq a 203) (k nx ls (.int 6 :: r) s)
  | _ => none
def tbS : List Int32 := [103, 110, 98, 104, 112, 111]
noncomputable def e_sbyt (nx : Nat) : Ins σ := fun _ _ _ ls st s k => match st with
  | .int i :: .ref a :: r => gd (Nat.beq a 203 && inb i 6) (k nx ls (.int (tbS.getD i.toNatClampNeg 0) :: r) s)
  | _ => none
def e_callX (cal : Cal σ) (y na nx : Nat) : Ins σ := fun ρ _ _ ls st s k => match st.drop na with
  | .ref b :: r => gd (Nat.beq (st.take na).length na && Nat.ble (r.map fun v => v.category).sum 8 && Nat.beq b 202) (cal ρ y (.ref b :: (st.take na).reverse) s (fun rv s' => k nx ls (rv.toList ++ r) s'))
  | _ => none
theorem ok_ldcS (X : Cx G A RX8 cc nL p s m args c) (d : decode cc pc = .ok (.ldc 76, 2)) (hn : pc + 2 = nx) : OKi G A nL n0 sl0 ad0 p l e R s m args below meth c Q O ret r pc (e_ldcS nx) := by
  intro ls st x k h hk ad H locs cells slots lsA hR hl
  subst hn
  have g := hk _ _ _ _ h ad H locs cells slots lsA hR hl
  rw [List.map_cons, show cv ad (Value.ref 202) = .ref (G.ex 2) from congrArg Value.ref (hR.2.2.2.2.1 2)] at g
  exact va_ldcS X.1 X.2.1 X.2.2.2.1 X.2.2.2.2.2.2.2.2.2.2.2.1 d g
theorem ok_cstr (X : Cx G A own cc nL p s m args c) {idx : Nat} (hw : Cond.fieldLink own idx "java/lang/String" "COMPACT_STRINGS" "Z" ∈ TB) (d : decode cc pc = .ok (.getstatic idx, 3)) (hn : pc + 3 = nx) : OKi G A nL n0 sl0 ad0 p l e R s m args below meth c Q O ret r pc (e_iconst 1 nx) := by
  intro ls st x k h hk ad H locs cells slots lsA hR hl
  subst hn
  exact va_gets X.1 X.2.1 X.2.2.2.2.2.2.2.2.2.2.2.2.2.1 hR.2.2.1 X.2.2.2.1 (X.2.2.2.2.1 _ hw) (fun _ z => z) d (hk _ _ _ _ h ad H locs cells slots lsA hR hl)
theorem ok_sval (X : Cx G A own cc nL p s m args c) {idx : Nat} (hw : Cond.fieldLink own idx "java/lang/String" "value" "[B" ∈ TB) (d : decode cc pc = .ok (.getfield idx, 3)) (hn : pc + 3 = nx) : OKi G A nL n0 sl0 ad0 p l e R s m args below meth c Q O ret r pc (e_sval nx) := by
  intro ls st x k h hk ad H locs cells slots lsA hR hl
  subst hn
  unfold e_sval at h
  split at h
  · rename_i a q
    obtain ⟨hb, h⟩ := gd_some h
    have g := hk _ _ _ _ h ad H locs cells slots lsA hR hl
    rw [List.map_cons, show cv ad (Value.ref 203) = .ref (G.ex 3) from congrArg Value.ref (hR.2.2.2.2.1 3)] at g
    rw [List.map_cons, show cv ad (Value.ref a) = .ref (G.ex 2) by rw [Nat.eq_of_beq_eq_true hb]; exact congrArg Value.ref (hR.2.2.2.2.1 2)]
    exact vk_getf X.1 X.2.1 (X.2.2.2.2.2.2.2.2.2.2.2.2.1.1 0 (by decide)).2.2.1 hR.2.2.1 X.2.2.2.1 (X.2.2.2.2.1 _ hw) (fun _ z => z) d g
  · cases h
theorem ok_scod (X : Cx G A own cc nL p s m args c) {idx : Nat} (hw : Cond.fieldLink own idx "java/lang/String" "coder" "B" ∈ TB) (d : decode cc pc = .ok (.getfield idx, 3)) (hn : pc + 3 = nx) : OKi G A nL n0 sl0 ad0 p l e R s m args below meth c Q O ret r pc (e_scod nx) := by
  intro ls st x k h hk ad H locs cells slots lsA hR hl
  subst hn
  unfold e_scod at h
  split at h
  · rename_i a q
    obtain ⟨hb, h⟩ := gd_some h
    have g := hk _ _ _ _ h ad H locs cells slots lsA hR hl
    rw [List.map_cons, show cv ad (Value.ref a) = .ref (G.ex 2) by rw [Nat.eq_of_beq_eq_true hb]; exact congrArg Value.ref (hR.2.2.2.2.1 2)]
    exact vk_getf X.1 X.2.1 (X.2.2.2.2.2.2.2.2.2.2.2.2.1.1 0 (by decide)).2.1 hR.2.2.1 X.2.2.2.1 (X.2.2.2.2.1 _ hw) (fun _ z => z) d g
  · cases h
theorem ok_slen (X : Cx G A own cc nL p s m args c) (d : decode cc pc = .ok (.arraylength, 1)) (hn : pc + 1 = nx) : OKi G A nL n0 sl0 ad0 p l e R s m args below meth c Q O ret r pc (e_slen nx) := by
  intro ls st x k h hk ad H locs cells slots lsA hR hl
  subst hn
  unfold e_slen at h
  split at h
  · rename_i a q
    obtain ⟨hb, h⟩ := gd_some h
    have g := hk _ _ _ _ h ad H locs cells slots lsA hR hl
    rw [List.map_cons, show cv ad (Value.ref a) = .ref (G.ex 3) by rw [Nat.eq_of_beq_eq_true hb]; exact congrArg Value.ref (hR.2.2.2.2.1 3)]
    exact va_tlen X.1 X.2.1 (X.2.2.2.2.2.2.2.2.2.2.2.2.1.1 0 (by decide)).2.2.2 hR.2.2.1 rfl d g
  · cases h
theorem ok_sbyt (X : Cx G A own cc nL p s m args c) (d : decode cc pc = .ok (.baload, 1)) (hn : pc + 1 = nx) : OKi G A nL n0 sl0 ad0 p l e R s m args below meth c Q O ret r pc (e_sbyt nx) := by
  intro ls st x k h hk ad H locs cells slots lsA hR hl
  subst hn
  unfold e_sbyt at h
  split at h
  · rename_i i a q
    obtain ⟨hb, h⟩ := gd_some h
    rw [Bool.and_eq_true] at hb
    have g := hk _ _ _ _ h ad H locs cells slots lsA hR hl
    rw [List.map_cons, List.map_cons, show cv ad (Value.ref a) = .ref (G.ex 3) by rw [Nat.eq_of_beq_eq_true hb.1]; exact congrArg Value.ref (hR.2.2.2.2.1 3)]
    exact va_tb X.1 X.2.1 (X.2.2.2.2.2.2.2.2.2.2.2.2.1.1 0 (by decide)).2.2.2 hR.2.2.1 (inb_of hb.2) rfl d g
  · cases h
theorem ok_callX (X : Cx G A own cc nL p s m args c) (hcal : calOK l G O D cal) (hN : ∀ x, (O.emb x).n = n0 ∧ (O.emb x).sl = sl0) {y na idx : Nat} {Y : Md} (hY : md y = Y) (hC : Y.1.cls = "java/lang/String") (hcd : Cond.code Y.1 Y.2.1 Y.2.2.1 Y.2.2.2 ∈ TB) (hln : Cond.methodLink own idx Y.1 ∈ TB) (hini : Cond.initialized Y.1.cls ∈ TB) (him : Cond.instanceMethod Y.1 ∈ TB) (hsel : Cond.selects Y.1.cls Y.1 Y.1 ∈ TB) (hd : Y.1.cls ≠ "java/lang/invoke/MethodHandle" ∧ Y.1.cls ≠ "java/lang/invoke/VarHandle" ∧ (parseMethodDescriptor Y.1.desc).map (fun d => d.parameters.length) = some na) (hRm : D + 1 ≤ R.frames ∧ 8 + (Y.2.2.1 + 11) + 40 * D ≤ R.locals) (d : decode cc pc = .ok (.invokevirtual idx, 3)) (hn : pc + 3 = nx) : OKi G A nL n0 sl0 ad0 p l e R s m args below meth c Q O ret r pc (e_callX cal y na nx) := by
  intro ls st x k h hk ad H locs cells slots lsA hR hl
  subst hn
  subst hY
  unfold e_callX at h
  split at h
  · rename_i b q hdr
    obtain ⟨hb, h⟩ := gd_some h
    simp only [Bool.and_eq_true] at hb
    have hna := Nat.eq_of_beq_eq_true hb.1.1
    have hsum := Nat.le_of_ble_eq_true hb.1.2
    have hbb := Nat.eq_of_beq_eq_true hb.2
    obtain ⟨rv, x', hkr, hM⟩ := hcal _ _ _ _ _ _ h
    obtain ⟨m1, m2, m3, hM⟩ := hM
    have hM := hM ad H.size hR.2.2.2.1 hR.2.2.2.2.1
    have e1 := (hN x).1
    have e2 := (hN x').1
    have e3 := (hN x).2
    have e4 := (hN x').2
    have hc0 : cells = 0 := by have := hR.2.2.2.2.2.1; omega
    have hs0 : slots = 0 := by have := hR.2.2.2.2.2.2.1; omega
    have hst2 : st.map (cv ad) = (((st.take na).reverse.map (cv ad)).reverse) ++ (.ref (ad b) :: q.map (cv ad)) := by
      rw [← List.map_reverse, List.reverse_reverse, show (Value.ref (ad b) :: q.map (cv ad)) = (st.drop na).map (cv ad) by rw [hdr]; rfl, ← List.map_append, List.take_append_drop]
    have z1 : (O.emb x').n - (O.emb x).n = 0 := by omega
    have z2 : (O.emb x').sl - (O.emb x).sl = 0 := by omega
    rw [z1, z2] at hM
    refine call_go (mc := 0) (ms := 0) (va_runV (C := (md y).1.cls) (As := (st.take na).reverse.map (cv ad)) (rest := q.map (cv ad)) ⟨X.1, X.2.1, X.2.2.1, X.2.2.2.1, X.2.2.2.2.1⟩ hM ⟨TB_call X.2.2.2.2.1 hcd hln hini hd hRm, X.2.2.2.2.1 _ him, X.2.2.2.2.1 _ hsel⟩ ⟨PcA.blind, by rw [hC, hbb, show ad 202 = G.ex 2 from hR.2.2.2.2.1 2]; exact vk_recv (i := 0) X.2.2.2.2.2.2.2.2.2.2.2.2.1 (by decide) hR.2.2.1, PcA.at X hR rfl⟩ rfl (by simpa using hna) hl.1 hst2 (lv_room (by rw [cat_sum]; exact hsum)) d ⟨by omega, by omega⟩) hR X.2.2.2.2.2.2.1 (by omega) (by omega) m3 (fun ad' H1 locs1 g1 g2 => ?_)
    have had : ad' = ad := funext fun i => g1 i (by omega)
    subst had
    have g := hk _ _ _ _ hkr ad' H1 locs1 _ _ lsA g2 hl
    rw [List.map_append] at g
    cases rv <;> exact g
  · cases h
end OKC
