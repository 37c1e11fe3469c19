theorem isK_of {h : AH} {a ci : Nat} (hb : isK h a ci = true) : a < h.n ∧ (h.sh a).1 = ci := by
  unfold isK at hb
  rw [Bool.and_eq_true] at hb
  exact ⟨Nat.le_of_ble_eq_true hb.1, Nat.eq_of_beq_eq_true hb.2⟩
theorem isF_of {h : AH} {a ci kf : Nat} (hb : isF h a ci kf = true) : a < h.n ∧ (h.sh a).1 = ci ∧ kf < (h.sh a).2 := by
  unfold isF at hb
  rw [Bool.and_eq_true] at hb
  exact ⟨(isK_of hb.1).1, (isK_of hb.1).2, Nat.le_of_ble_eq_true hb.2⟩
theorem inb_of {i : Int32} {n : Nat} (h : inb i n = true) : vp_in i n := by
  rw [inb_eq] at h
  unfold inb0 at h
  rw [Bool.and_eq_true] at h
  have h1 : ¬ i < 0 := by simpa using h.1
  have h2 : i.toNatClampNeg < n := Nat.le_of_ble_eq_true h.2
  exact fun q => q.elim h1 (fun z => by omega)
theorem fsO_get {ad : Nat → Nat} {h : AH} {i k : Nat} (hk : k < (h.sh i).2) : (fsO ad h i)[k]? = some (fV ad h i (tyC (h.sh i).1 k) k) := by
  unfold fsO
  rw [List.getElem?_map, List.getElem?_range hk]
  rfl
theorem fsO_len {ad : Nat → Nat} {h : AH} {i : Nat} : (fsO ad h i).length = (h.sh i).2 := by simp [fsO]
theorem cE_wI {G : Gm} {ad : Nat → Nat} {h : AH} {a i : Nat} {f : Nat → Int32} (hi : i ≠ a) : cE G ad (h.wI a f) i = cE G ad h i := by
  simp only [cE, fsO, fV, AH.n, AH.sl, AH.sh, AH.I, AH.L, AH.R, AH.wI, AH.wL, AH.wR, va_up, if_neg hi]
theorem cE_wL {G : Gm} {ad : Nat → Nat} {h : AH} {a i : Nat} {f : Nat → Int64} (hi : i ≠ a) : cE G ad (h.wL a f) i = cE G ad h i := by
  simp only [cE, fsO, fV, AH.n, AH.sl, AH.sh, AH.I, AH.L, AH.R, AH.wI, AH.wL, AH.wR, va_up, if_neg hi]
theorem cE_wR {G : Gm} {ad : Nat → Nat} {h : AH} {a i : Nat} {f : Nat → Option Nat} (hi : i ≠ a) : cE G ad (h.wR a f) i = cE G ad h i := by
  simp only [cE, fsO, fV, AH.n, AH.sl, AH.sh, AH.I, AH.L, AH.R, AH.wI, AH.wL, AH.wR, va_up, if_neg hi]
theorem fsO_wI {ad : Nat → Nat} {h : AH} {a kf : Nat} {v : Int32} (hk : kf < (h.sh a).2) (hty : ∀ h' : AH, fV ad h' a (tyC (h.sh a).1 kf) kf = .int (h'.I a kf)) : (fsO ad h a).set kf (.int v) = fsO ad (h.wI a (va_up (h.I a) kf v)) a := by
  refine List.ext_getElem? fun j => ?_
  by_cases hj : j < (h.sh a).2
  · rw [fsO_get (h := h.wI a (va_up (h.I a) kf v)) hj]
    by_cases e : j = kf
    · subst e
      rw [List.getElem?_set_self (by rw [fsO_len]; exact hj), hty]
      simp only [AH.n, AH.sl, AH.sh, AH.I, AH.L, AH.R, AH.wI, AH.wL, AH.wR, va_up, if_true]
    · rw [List.getElem?_set_ne (Ne.symm e), fsO_get hj]
      refine congrArg some ?_
      simp only [fV, AH.n, AH.sl, AH.sh, AH.I, AH.L, AH.R, AH.wI, AH.wL, AH.wR, va_up, if_true, if_neg e]
  · rw [List.getElem?_eq_none (by rw [List.length_set, fsO_len]; omega), List.getElem?_eq_none (by rw [fsO_len]; exact Nat.le_of_not_lt hj)]
theorem fsO_wL {ad : Nat → Nat} {h : AH} {a kf : Nat} {v : Int64} (hk : kf < (h.sh a).2) (hty : ∀ h' : AH, fV ad h' a (tyC (h.sh a).1 kf) kf = .long (h'.L a kf)) : (fsO ad h a).set kf (.long v) = fsO ad (h.wL a (va_up (h.L a) kf v)) a := by
  refine List.ext_getElem? fun j => ?_
  by_cases hj : j < (h.sh a).2
  · rw [fsO_get (h := h.wL a (va_up (h.L a) kf v)) hj]
    by_cases e : j = kf
    · subst e
      rw [List.getElem?_set_self (by rw [fsO_len]; exact hj), hty]
      simp only [AH.n, AH.sl, AH.sh, AH.I, AH.L, AH.R, AH.wI, AH.wL, AH.wR, va_up, if_true]
    · rw [List.getElem?_set_ne (Ne.symm e), fsO_get hj]
      refine congrArg some ?_
      simp only [fV, AH.n, AH.sl, AH.sh, AH.I, AH.L, AH.R, AH.wI, AH.wL, AH.wR, va_up, if_true, if_neg e]
  · rw [List.getElem?_eq_none (by rw [List.length_set, fsO_len]; omega), List.getElem?_eq_none (by rw [fsO_len]; exact Nat.le_of_not_lt hj)]
theorem fsO_wR {ad : Nat → Nat} {h : AH} {a kf v : Nat} (hk : kf < (h.sh a).2) (hty : ∀ h' : AH, fV ad h' a (tyC (h.sh a).1 kf) kf = va_rf ((h'.R a kf).map ad)) : (fsO ad h a).set kf (.ref (ad v)) = fsO ad (h.wR a (va_up (h.R a) kf (some v))) a := by
  refine List.ext_getElem? fun j => ?_
  by_cases hj : j < (h.sh a).2
  · rw [fsO_get (h := h.wR a (va_up (h.R a) kf (some v))) hj]
    by_cases e : j = kf
    · subst e
      rw [List.getElem?_set_self (by rw [fsO_len]; exact hj), hty]
      simp only [AH.n, AH.sl, AH.sh, AH.I, AH.L, AH.R, AH.wI, AH.wL, AH.wR, va_up, if_true, Option.map_some, va_rf]
    · rw [List.getElem?_set_ne (Ne.symm e), fsO_get hj]
      refine congrArg some ?_
      simp only [fV, AH.n, AH.sl, AH.sh, AH.I, AH.L, AH.R, AH.wI, AH.wL, AH.wR, va_up, if_true, if_neg e]
  · rw [List.getElem?_eq_none (by rw [List.length_set, fsO_len]; omega), List.getElem?_eq_none (by rw [fsO_len]; exact Nat.le_of_not_lt hj)]
def OpsOK {σ : Type} (O : Ops σ) (Nf Sf : Nat) : Prop := (∀ x a f, O.emb (O.wI x a f) = (O.emb x).wI a f) ∧ (∀ x a f, O.emb (O.wL x a f) = (O.emb x).wL a f) ∧ (∀ x a kf v x', O.wR x a kf v = some x' → O.emb x' = (O.emb x).wR a (va_up ((O.emb x).R a) kf (some v))) ∧
  (∀ x q x', O.al x q = some x' → O.emb x' = (O.emb x).push q ∧ (O.emb x).n + 1 ≤ Nf ∧ (O.emb x).sl + q.2 ≤ Sf ∧ (O.emb x).n < 200)
theorem cv_rf (ad : Nat → Nat) (r : Option Nat) : cv ad (va_rf r) = va_rf (r.map ad) := by cases r <;> rfl
section OKH
variable {ad0 : Nat → Nat} {G : Gm} {A : Nat → Prop} {own : String} {cc : ByteArray} {nL n0 sl0 : Nat} {p : Program} {l : Launch} {e : Env} {R : Room} {s : State} {m : MethodId} {args : Array Value} {below : List Frame} {meth : Method} {c : Code} {Q : State → Prop} {σ ρ : Type} {O : Ops σ} {ret : Option Value → σ → Option ρ} {r : ρ} {pc nx : Nat} {Nf Sf : Nat}
theorem ok_getI (X : Cx G A own cc nL p s m args c) {C : String} {T : u_T} {N ci kf idx : Nat} (hc : vwCl[ci]? = some (C, T, N)) (h100 : ci < 100) (hin : ∀ w ∈ u_ws C T N, w ∈ TB) (hkN : kf < N) (hw : Cond.fieldLink own idx (T kf).1 (T kf).2.1 (T kf).2.2.1 ∈ TB) (hty : ∀ ad h' a, fV ad h' a (tyC ci kf) kf = .int (h'.I a kf)) (d : decode cc pc = .ok (.getfield idx, 3)) (hn : pc + 3 = nx) : OKi G A nL n0 sl0 ad0 p l e R s m args below meth c Q O ret r pc (e_getI O ci kf nx) := by
  intro ls st x k h hk ad H locs cells slots lsA hR hl
  subst hn
  unfold e_getI at h
  split at h
  · rename_i a q
    obtain ⟨hb, h⟩ := gd_some h
    obtain ⟨g1, g2, g3⟩ := isF_of hb
    exact va_get X.1 X.2.1 X.2.2.2.2.1 hin X.2.2.2.1 X.2.2.2.2.2.1 hR.1 a (by rw [wsA_get g1, cE_obj g2 h100]) hc kf hkN (X.2.2.2.2.1 _ hw) (fun _ z => z) (by rw [fsO_get g3, g2, hty]; rfl) d (hk _ _ _ _ h ad H locs cells slots lsA hR hl)
  · cases h
theorem ok_getL (X : Cx G A own cc nL p s m args c) {C : String} {T : u_T} {N ci kf idx : Nat} (hc : vwCl[ci]? = some (C, T, N)) (h100 : ci < 100) (hin : ∀ w ∈ u_ws C T N, w ∈ TB) (hkN : kf < N) (hw : Cond.fieldLink own idx (T kf).1 (T kf).2.1 (T kf).2.2.1 ∈ TB) (hty : ∀ ad h' a, fV ad h' a (tyC ci kf) kf = .long (h'.L a kf)) (d : decode cc pc = .ok (.getfield idx, 3)) (hn : pc + 3 = nx) : OKi G A nL n0 sl0 ad0 p l e R s m args below meth c Q O ret r pc (e_getL O ci kf nx) := by
  intro ls st x k h hk ad H locs cells slots lsA hR hl
  subst hn
  unfold e_getL at h
  split at h
  · rename_i a q
    obtain ⟨hb, h⟩ := gd_some h
    obtain ⟨g1, g2, g3⟩ := isF_of hb
    exact va_get X.1 X.2.1 X.2.2.2.2.1 hin X.2.2.2.1 X.2.2.2.2.2.1 hR.1 a (by rw [wsA_get g1, cE_obj g2 h100]) hc kf hkN (X.2.2.2.2.1 _ hw) (fun _ z => z) (by rw [fsO_get g3, g2, hty]; rfl) d (hk _ _ _ _ h ad H locs cells slots lsA hR hl)
  · cases h
theorem ok_getR (X : Cx G A own cc nL p s m args c) {C : String} {T : u_T} {N ci kf idx : Nat} (hc : vwCl[ci]? = some (C, T, N)) (h100 : ci < 100) (hin : ∀ w ∈ u_ws C T N, w ∈ TB) (hkN : kf < N) (hw : Cond.fieldLink own idx (T kf).1 (T kf).2.1 (T kf).2.2.1 ∈ TB) (hty : ∀ ad h' a, fV ad h' a (tyC ci kf) kf = va_rf ((h'.R a kf).map ad)) (d : decode cc pc = .ok (.getfield idx, 3)) (hn : pc + 3 = nx) : OKi G A nL n0 sl0 ad0 p l e R s m args below meth c Q O ret r pc (e_getR O ci kf nx) := by
  intro ls st x k h hk ad H locs cells slots lsA hR hl
  subst hn
  unfold e_getR at h
  split at h
  · rename_i a q
    obtain ⟨hb, h⟩ := gd_some h
    obtain ⟨g1, g2, g3⟩ := isF_of hb
    refine va_get X.1 X.2.1 X.2.2.2.2.1 hin X.2.2.2.1 X.2.2.2.2.2.1 hR.1 a (by rw [wsA_get g1, cE_obj g2 h100]) hc kf hkN (X.2.2.2.2.1 _ hw) (fun _ z => z) (by rw [fsO_get g3, g2, hty]) d ?_
    have g := hk _ _ _ _ h ad H locs cells slots lsA hR hl
    rw [List.map_cons, cv_rf] at g
    exact g
  · cases h
theorem Rl.wI {ad : Nat → Nat} {h : AH} {H H1 : Heap} {locs locs1 : List Loc} {cells slots a : Nat} {f : Nat → Int32} {v : va_E} (hR : Rl G A s n0 sl0 ad0 ad h H locs cells slots) (hv : cE G ad (h.wI a f) a = v) (hP : va_P G.D vwCl ((wsA G ad h).set a (ad a, v)) H1) (hD : va_D A ((wsA G ad h).set a (ad a, v))) (hS : va_S A s.heap H1 locs1) : Rl G A s n0 sl0 ad0 ad (h.wI a f) H1 locs1 cells slots := by
  have e9 := wsA_set (G := G) (ad := ad) (h := h) (h' := h.wI a f) (a := a) rfl (fun i hi => cE_wI hi) hv
  rw [e9] at hP hD
  exact ⟨hP, hD, hS, hR.2.2.2.1, hR.2.2.2.2⟩
theorem Rl.wL {ad : Nat → Nat} {h : AH} {H H1 : Heap} {locs locs1 : List Loc} {cells slots a : Nat} {f : Nat → Int64} {v : va_E} (hR : Rl G A s n0 sl0 ad0 ad h H locs cells slots) (hv : cE G ad (h.wL a f) a = v) (hP : va_P G.D vwCl ((wsA G ad h).set a (ad a, v)) H1) (hD : va_D A ((wsA G ad h).set a (ad a, v))) (hS : va_S A s.heap H1 locs1) : Rl G A s n0 sl0 ad0 ad (h.wL a f) H1 locs1 cells slots := by
  have e9 := wsA_set (G := G) (ad := ad) (h := h) (h' := h.wL a f) (a := a) rfl (fun i hi => cE_wL hi) hv
  rw [e9] at hP hD
  exact ⟨hP, hD, hS, hR.2.2.2.1, hR.2.2.2.2⟩
theorem Rl.wR {ad : Nat → Nat} {h : AH} {H H1 : Heap} {locs locs1 : List Loc} {cells slots a kf b : Nat} {v : va_E} (hR : Rl G A s n0 sl0 ad0 ad h H locs cells slots) (hb : b < h.n) (hv : cE G ad (h.wR a (va_up (h.R a) kf (some b))) a = v) (hP : va_P G.D vwCl ((wsA G ad h).set a (ad a, v)) H1) (hD : va_D A ((wsA G ad h).set a (ad a, v))) (hS : va_S A s.heap H1 locs1) : Rl G A s n0 sl0 ad0 ad (h.wR a (va_up (h.R a) kf (some b))) H1 locs1 cells slots := by
  have e9 := wsA_set (G := G) (ad := ad) (h := h) (h' := h.wR a (va_up (h.R a) kf (some b))) (a := a) rfl (fun i hi => cE_wR hi) hv
  rw [e9] at hP hD
  refine ⟨hP, hD, hS, fun i j z hz => ?_, hR.2.2.2.2⟩
  have hz : va_up h.R a (va_up (h.R a) kf (some b)) i j = some z := hz
  unfold va_up at hz
  split at hz
  · dsimp only at hz
    split at hz
    · cases hz
      exact hb
    · exact hR.2.2.2.1 _ _ _ hz
  · exact hR.2.2.2.1 _ _ _ hz
theorem ok_putI (X : Cx G A own cc nL p s m args c) (hO : OpsOK O Nf Sf) {C : String} {T : u_T} {N ci kf idx : Nat} {ty0 : Nat → FieldType} (hc : vwCl[ci]? = some (C, T, N)) (h100 : ci < 100) (hin : ∀ w ∈ u_ws C T N, w ∈ TB) (hty0 : ∀ k, k < N → parseFieldDescriptor (T k).2.2.1 = some (ty0 k)) (hnm : ∀ a, a < N → ∀ b, b < N → a ≠ b → (T a).2.1 ≠ (T b).2.1) (hkN : kf < N) (hw : Cond.fieldLink own idx (T kf).1 (T kf).2.1 (T kf).2.2.1 ∈ TB) (hfin : (T kf).2.2.2 = false) (hty : ∀ ad h' a, fV ad h' a (tyC ci kf) kf = .int (h'.I a kf)) (hd : parseFieldDescriptor (T kf).2.2.1 = some .int) (d : decode cc pc = .ok (.putfield idx, 3)) (hn : pc + 3 = nx) : OKi G A nL n0 sl0 ad0 p l e R s m args below meth c Q O ret r pc (e_putI O ci kf nx) := by
  intro ls st x k h hk ad H locs cells slots lsA hR hl
  subst hn
  unfold e_putI at h
  split at h
  · rename_i v a q
    obtain ⟨hb, h⟩ := gd_some h
    obtain ⟨g1, g2, g3⟩ := isF_of hb
    refine va_put X.1 X.2.1 X.2.2.2.2.1 hin ty0 hty0 hnm X.2.2.2.1 X.2.2.2.2.2.1 hR.1 hR.2.1 hR.2.2.1 a (by rw [wsA_get g1, cE_obj g2 h100]) hc kf hkN (X.2.2.2.2.1 _ hw) (fun _ z => z) hfin hd rfl rfl (by rw [fsO_len]; exact g3) d (fun H1 locs1 hP hD hS => ?_)
    refine hk _ _ _ _ h ad H1 locs1 cells slots lsA ?_ hl
    rw [hO.1]
    exact hR.wI (by rw [cE_obj (h := (O.emb x).wI a (va_up ((O.emb x).I a) kf v)) g2 h100, ← fsO_wI g3 (fun h' => by rw [g2]; exact hty ad h' a)]; rfl) hP hD hS
  · cases h
theorem ok_putZ (X : Cx G A own cc nL p s m args c) (hO : OpsOK O Nf Sf) {C : String} {T : u_T} {N ci kf idx : Nat} {ty0 : Nat → FieldType} (hc : vwCl[ci]? = some (C, T, N)) (h100 : ci < 100) (hin : ∀ w ∈ u_ws C T N, w ∈ TB) (hty0 : ∀ k, k < N → parseFieldDescriptor (T k).2.2.1 = some (ty0 k)) (hnm : ∀ a, a < N → ∀ b, b < N → a ≠ b → (T a).2.1 ≠ (T b).2.1) (hkN : kf < N) (hw : Cond.fieldLink own idx (T kf).1 (T kf).2.1 (T kf).2.2.1 ∈ TB) (hfin : (T kf).2.2.2 = false) (hty : ∀ ad h' a, fV ad h' a (tyC ci kf) kf = .int (h'.I a kf)) (hd : parseFieldDescriptor (T kf).2.2.1 = some .boolean) (d : decode cc pc = .ok (.putfield idx, 3)) (hn : pc + 3 = nx) : OKi G A nL n0 sl0 ad0 p l e R s m args below meth c Q O ret r pc (e_putZ O ci kf nx) := by
  intro ls st x k h hk ad H locs cells slots lsA hR hl
  subst hn
  unfold e_putZ at h
  split at h
  · rename_i v a q
    obtain ⟨hb, h⟩ := gd_some h
    rw [Bool.and_eq_true] at hb
    obtain ⟨hb, hz⟩ := hb
    obtain ⟨g1, g2, g3⟩ := isF_of hb
    have hz2 : v = 0 ∨ v = 1 := by simpa using hz
    refine va_put X.1 X.2.1 X.2.2.2.2.1 hin ty0 hty0 hnm X.2.2.2.1 X.2.2.2.2.2.1 hR.1 hR.2.1 hR.2.2.1 a (by rw [wsA_get g1, cE_obj g2 h100]) hc kf hkN (X.2.2.2.2.1 _ hw) (fun _ z => z) hfin hd (by rcases hz2 with z | z <;> subst z <;> rfl) (by rcases hz2 with z | z <;> subst z <;> rfl) (by rw [fsO_len]; exact g3) d (fun H1 locs1 hP hD hS => ?_)
    refine hk _ _ _ _ h ad H1 locs1 cells slots lsA ?_ hl
    rw [hO.1]
    exact hR.wI (by rw [cE_obj (h := (O.emb x).wI a (va_up ((O.emb x).I a) kf v)) g2 h100, ← fsO_wI g3 (fun h' => by rw [g2]; exact hty ad h' a)]; rfl) hP hD hS
  · cases h
theorem ok_putL (X : Cx G A own cc nL p s m args c) (hO : OpsOK O Nf Sf) {C : String} {T : u_T} {N ci kf idx : Nat} {ty0 : Nat → FieldType} (hc : vwCl[ci]? = some (C, T, N)) (h100 : ci < 100) (hin : ∀ w ∈ u_ws C T N, w ∈ TB) (hty0 : ∀ k, k < N → parseFieldDescriptor (T k).2.2.1 = some (ty0 k)) (hnm : ∀ a, a < N → ∀ b, b < N → a ≠ b → (T a).2.1 ≠ (T b).2.1) (hkN : kf < N) (hw : Cond.fieldLink own idx (T kf).1 (T kf).2.1 (T kf).2.2.1 ∈ TB) (hfin : (T kf).2.2.2 = false) (hty : ∀ ad h' a, fV ad h' a (tyC ci kf) kf = .long (h'.L a kf)) (hd : parseFieldDescriptor (T kf).2.2.1 = some .long) (d : decode cc pc = .ok (.putfield idx, 3)) (hn : pc + 3 = nx) : OKi G A nL n0 sl0 ad0 p l e R s m args below meth c Q O ret r pc (e_putL O ci kf nx) := by
  intro ls st x k h hk ad H locs cells slots lsA hR hl
  subst hn
  unfold e_putL at h
  split at h
  · rename_i v a q
    obtain ⟨hb, h⟩ := gd_some h
    obtain ⟨g1, g2, g3⟩ := isF_of hb
    refine va_put X.1 X.2.1 X.2.2.2.2.1 hin ty0 hty0 hnm X.2.2.2.1 X.2.2.2.2.2.1 hR.1 hR.2.1 hR.2.2.1 a (by rw [wsA_get g1, cE_obj g2 h100]) hc kf hkN (X.2.2.2.2.1 _ hw) (fun _ z => z) hfin hd rfl rfl (by rw [fsO_len]; exact g3) d (fun H1 locs1 hP hD hS => ?_)
    refine hk _ _ _ _ h ad H1 locs1 cells slots lsA ?_ hl
    rw [hO.2.1]
    exact hR.wL (by rw [cE_obj (h := (O.emb x).wL a (va_up ((O.emb x).L a) kf v)) g2 h100, ← fsO_wL g3 (fun h' => by rw [g2]; exact hty ad h' a)]; rfl) hP hD hS
  · cases h
theorem ok_putR (X : Cx G A own cc nL p s m args c) (hO : OpsOK O Nf Sf) {C : String} {T : u_T} {N ci kf idx : Nat} {ty0 : Nat → FieldType} {ty : FieldType} (hc : vwCl[ci]? = some (C, T, N)) (h100 : ci < 100) (hin : ∀ w ∈ u_ws C T N, w ∈ TB) (hty0 : ∀ k, k < N → parseFieldDescriptor (T k).2.2.1 = some (ty0 k)) (hnm : ∀ a, a < N → ∀ b, b < N → a ≠ b → (T a).2.1 ≠ (T b).2.1) (hkN : kf < N) (hw : Cond.fieldLink own idx (T kf).1 (T kf).2.1 (T kf).2.2.1 ∈ TB) (hfin : (T kf).2.2.2 = false) (hty : ∀ ad h' a, fV ad h' a (tyC ci kf) kf = va_rf ((h'.R a kf).map ad)) (hd : parseFieldDescriptor (T kf).2.2.1 = some ty) (hna : ∀ a, narrow ty (.ref a) = .ref a) (hfi : ∀ a, fits ty (.ref a) = true) (d : decode cc pc = .ok (.putfield idx, 3)) (hn : pc + 3 = nx) : OKi G A nL n0 sl0 ad0 p l e R s m args below meth c Q O ret r pc (e_putR O ci kf nx) := by
  intro ls st x k h hk ad H locs cells slots lsA hR hl
  subst hn
  unfold e_putR at h
  split at h
  · rename_i v a q
    obtain ⟨hb, h⟩ := gd_some h
    rw [Bool.and_eq_true] at hb
    obtain ⟨hb, hz⟩ := hb
    have hz := Nat.le_of_ble_eq_true hz
    obtain ⟨g1, g2, g3⟩ := isF_of hb
    split at h
    · rename_i x' hx'
      refine va_put X.1 X.2.1 X.2.2.2.2.1 hin ty0 hty0 hnm X.2.2.2.1 X.2.2.2.2.2.1 hR.1 hR.2.1 hR.2.2.1 a (by rw [wsA_get g1, cE_obj g2 h100]) hc kf hkN (X.2.2.2.2.1 _ hw) (fun _ z => z) hfin hd (hna _) (hfi _) (by rw [fsO_len]; exact g3) d (fun H1 locs1 hP hD hS => ?_)
      refine hk _ _ _ _ h ad H1 locs1 cells slots lsA ?_ hl
      rw [hO.2.2.1 _ _ _ _ _ hx']
      exact hR.wR hz (by rw [cE_obj (h := (O.emb x).wR a (va_up ((O.emb x).R a) kf (some v))) g2 h100, ← fsO_wR g3 (fun h' => by rw [g2]; exact hty ad h' a)]; rfl) hP hD hS
    · cases h
  · cases h
theorem ok_putF (X : Cx G A own cc nL p s m args c) (hO : OpsOK O Nf Sf) {C : String} {T : u_T} {N ci kf idx : Nat} {ty0 : Nat → FieldType} {ty : FieldType} (hc : vwCl[ci]? = some (C, T, N)) (h100 : ci < 100) (hin : ∀ w ∈ u_ws C T N, w ∈ TB) (hty0 : ∀ k, k < N → parseFieldDescriptor (T k).2.2.1 = some (ty0 k)) (hnm : ∀ a, a < N → ∀ b, b < N → a ≠ b → (T a).2.1 ≠ (T b).2.1) (hkN : kf < N) (hw : Cond.fieldLink own idx (T kf).1 (T kf).2.1 (T kf).2.2.1 ∈ TB) (hfin : (T kf).2.2.2 = true) (hmn : meth.name = "<init>") (hdecl : (T kf).1 = own) (hty : ∀ ad h' a, fV ad h' a (tyC ci kf) kf = va_rf ((h'.R a kf).map ad)) (hd : parseFieldDescriptor (T kf).2.2.1 = some ty) (hna : ∀ a, narrow ty (.ref a) = .ref a) (hfi : ∀ a, fits ty (.ref a) = true) (d : decode cc pc = .ok (.putfield idx, 3)) (hn : pc + 3 = nx) : OKi G A nL n0 sl0 ad0 p l e R s m args below meth c Q O ret r pc (e_putR O ci kf nx) := by
  intro ls st x k h hk ad H locs cells slots lsA hR hl
  subst hn
  unfold e_putR at h
  split at h
  · rename_i v a q
    obtain ⟨hb, h⟩ := gd_some h
    rw [Bool.and_eq_true] at hb
    obtain ⟨hb, hz⟩ := hb
    have hz := Nat.le_of_ble_eq_true hz
    obtain ⟨g1, g2, g3⟩ := isF_of hb
    split at h
    · rename_i x' hx'
      refine va_putF X.1 X.2.1 X.2.2.2.2.1 hin ty0 hty0 hnm X.2.2.2.1 X.2.2.2.2.2.1 hR.1 hR.2.1 hR.2.2.1 a (by rw [wsA_get g1, cE_obj g2 h100]) hc kf hkN (X.2.2.2.2.1 _ hw) (fun _ z => z) hfin hmn hdecl hd (hna _) (hfi _) (by rw [fsO_len]; exact g3) d (fun H1 locs1 hP hD hS => ?_)
      refine hk _ _ _ _ h ad H1 locs1 cells slots lsA ?_ hl
      rw [hO.2.2.1 _ _ _ _ _ hx']
      exact hR.wR hz (by rw [cE_obj (h := (O.emb x).wR a (va_up ((O.emb x).R a) kf (some v))) g2 h100, ← fsO_wR g3 (fun h' => by rw [g2]; exact hty ad h' a)]; rfl) hP hD hS
    · cases h
  · cases h
-- rows
theorem ok_iald (X : Cx G A own cc nL p s m args c) (d : decode cc pc = .ok (.iaload, 1)) (hn : pc + 1 = nx) : OKi G A nL n0 sl0 ad0 p l e R s m args below meth c Q O ret r pc (e_ald O 100 nx) := by
  intro ls st x k h hk ad H locs cells slots lsA hR hl
  subst hn
  unfold e_ald at h
  split at h
  · rename_i i a q
    obtain ⟨hb, h⟩ := gd_some h
    rw [Bool.and_eq_true] at hb
    obtain ⟨g1, g2⟩ := isK_of hb.1
    exact va_iald X.1 X.2.1 X.2.2.2.2.2.1 hR.1 a 0 (by rw [wsA_get g1, cE_int g2 (by decide)]) rfl (inb_of hb.2) d (hk _ _ _ _ h ad H locs cells slots lsA hR hl)
  · cases h
theorem ok_bald (X : Cx G A own cc nL p s m args c) (d : decode cc pc = .ok (.baload, 1)) (hn : pc + 1 = nx) : OKi G A nL n0 sl0 ad0 p l e R s m args below meth c Q O ret r pc (e_ald O 102 nx) := by
  intro ls st x k h hk ad H locs cells slots lsA hR hl
  subst hn
  unfold e_ald at h
  split at h
  · rename_i i a q
    obtain ⟨hb, h⟩ := gd_some h
    rw [Bool.and_eq_true] at hb
    obtain ⟨g1, g2⟩ := isK_of hb.1
    exact va_bald X.1 X.2.1 X.2.2.2.2.2.1 hR.1 a 2 (by rw [wsA_get g1, cE_int g2 (by decide)]) rfl (inb_of hb.2) d (hk _ _ _ _ h ad H locs cells slots lsA hR hl)
  · cases h
theorem ok_sald (X : Cx G A own cc nL p s m args c) (d : decode cc pc = .ok (.saload, 1)) (hn : pc + 1 = nx) : OKi G A nL n0 sl0 ad0 p l e R s m args below meth c Q O ret r pc (e_ald O 103 nx) := by
  intro ls st x k h hk ad H locs cells slots lsA hR hl
  subst hn
  unfold e_ald at h
  split at h
  · rename_i i a q
    obtain ⟨hb, h⟩ := gd_some h
    rw [Bool.and_eq_true] at hb
    obtain ⟨g1, g2⟩ := isK_of hb.1
    exact va_sald X.1 X.2.1 X.2.2.2.2.2.1 hR.1 a 3 (by rw [wsA_get g1, cE_int g2 (by decide)]) rfl (inb_of hb.2) d (hk _ _ _ _ h ad H locs cells slots lsA hR hl)
  · cases h
theorem ok_lald (X : Cx G A own cc nL p s m args c) (d : decode cc pc = .ok (.laload, 1)) (hn : pc + 1 = nx) : OKi G A nL n0 sl0 ad0 p l e R s m args below meth c Q O ret r pc (e_lald O nx) := by
  intro ls st x k h hk ad H locs cells slots lsA hR hl
  subst hn
  unfold e_lald at h
  split at h
  · rename_i i a q
    obtain ⟨hb, h⟩ := gd_some h
    rw [Bool.and_eq_true] at hb
    obtain ⟨g1, g2⟩ := isK_of hb.1
    exact va_lald X.1 X.2.1 X.2.2.2.2.2.1 hR.1 a 1 (by rw [wsA_get g1, cE_long g2]) rfl (inb_of hb.2) d (hk _ _ _ _ h ad H locs cells slots lsA hR hl)
  · cases h
theorem ok_aaldD (X : Cx G A own cc nL p s m args c) (d : decode cc pc = .ok (.aaload, 1)) (hn : pc + 1 = nx) : OKi G A nL n0 sl0 ad0 p l e R s m args below meth c Q O ret r pc (e_aald O 104 nx) := by
  intro ls st x k h hk ad H locs cells slots lsA hR hl
  subst hn
  unfold e_aald at h
  split at h
  · rename_i i a q
    obtain ⟨hb, h⟩ := gd_some h
    rw [Bool.and_eq_true] at hb
    obtain ⟨g1, g2⟩ := isK_of hb.1
    refine va_aldq X.1 X.2.1 X.2.2.2.2.2.1 hR.1 a 4 (by rw [wsA_get g1, cE_ref g2 (by decide)]) rfl (inb_of hb.2) d ?_
    have g := hk _ _ _ _ h ad H locs cells slots lsA hR hl
    rw [List.map_cons, cv_rf] at g
    exact g
  · cases h
theorem ok_iast (X : Cx G A own cc nL p s m args c) (hO : OpsOK O Nf Sf) (d : decode cc pc = .ok (.iastore, 1)) (hn : pc + 1 = nx) : OKi G A nL n0 sl0 ad0 p l e R s m args below meth c Q O ret r pc (e_ast O 100 (fun v => v) nx) := by
  intro ls st x k h hk ad H locs cells slots lsA hR hl
  subst hn
  unfold e_ast at h
  split at h
  · rename_i v i a q
    obtain ⟨hb, h⟩ := gd_some h
    rw [Bool.and_eq_true] at hb
    obtain ⟨g1, g2⟩ := isK_of hb.1
    refine va_iast X.1 X.2.1 X.2.2.2.2.2.1 hR.1 hR.2.1 hR.2.2.1 a 0 (by rw [wsA_get g1, cE_int g2 (by decide)]) rfl (inb_of hb.2) d (fun H1 locs1 hP hD hS => ?_)
    refine hk _ _ _ _ h ad H1 locs1 cells slots lsA ?_ hl
    rw [hO.1]
    exact hR.wI (by rw [cE_int (h := (O.emb x).wI a (va_up ((O.emb x).I a) i.toNatClampNeg v)) g2 (by decide)]; simp only [AH.n, AH.sl, AH.sh, AH.I, AH.L, AH.R, AH.wI, AH.wL, AH.wR, va_up_self]; rfl) hP hD hS
  · cases h
theorem ok_bast (X : Cx G A own cc nL p s m args c) (hO : OpsOK O Nf Sf) (d : decode cc pc = .ok (.bastore, 1)) (hn : pc + 1 = nx) : OKi G A nL n0 sl0 ad0 p l e R s m args below meth c Q O ret r pc (e_ast O 102 aB nx) := by
  intro ls st x k h hk ad H locs cells slots lsA hR hl
  subst hn
  unfold e_ast at h
  split at h
  · rename_i v i a q
    rw [aB_eq] at h
    obtain ⟨hb, h⟩ := gd_some h
    rw [Bool.and_eq_true] at hb
    obtain ⟨g1, g2⟩ := isK_of hb.1
    refine va_bast X.1 X.2.1 X.2.2.2.2.2.1 hR.1 hR.2.1 hR.2.2.1 a 2 (by rw [wsA_get g1, cE_int g2 (by decide)]) rfl (inb_of hb.2) d (fun H1 locs1 hP hD hS => ?_)
    refine hk _ _ _ _ h ad H1 locs1 cells slots lsA ?_ hl
    rw [hO.1]
    exact hR.wI (by rw [cE_int (h := (O.emb x).wI a (va_up ((O.emb x).I a) i.toNatClampNeg v.toInt8.toInt32)) g2 (by decide)]; simp only [AH.n, AH.sl, AH.sh, AH.I, AH.L, AH.R, AH.wI, AH.wL, AH.wR, va_up_self]; rfl) hP hD hS
  · cases h
theorem ok_sast (X : Cx G A own cc nL p s m args c) (hO : OpsOK O Nf Sf) (d : decode cc pc = .ok (.sastore, 1)) (hn : pc + 1 = nx) : OKi G A nL n0 sl0 ad0 p l e R s m args below meth c Q O ret r pc (e_ast O 103 aS nx) := by
  intro ls st x k h hk ad H locs cells slots lsA hR hl
  subst hn
  unfold e_ast at h
  split at h
  · rename_i v i a q
    rw [aS_eq] at h
    obtain ⟨hb, h⟩ := gd_some h
    rw [Bool.and_eq_true] at hb
    obtain ⟨g1, g2⟩ := isK_of hb.1
    refine va_sast X.1 X.2.1 X.2.2.2.2.2.1 hR.1 hR.2.1 hR.2.2.1 a 3 (by rw [wsA_get g1, cE_int g2 (by decide)]) rfl (inb_of hb.2) d (fun H1 locs1 hP hD hS => ?_)
    refine hk _ _ _ _ h ad H1 locs1 cells slots lsA ?_ hl
    rw [hO.1]
    exact hR.wI (by rw [cE_int (h := (O.emb x).wI a (va_up ((O.emb x).I a) i.toNatClampNeg v.toInt16.toInt32)) g2 (by decide)]; simp only [AH.n, AH.sl, AH.sh, AH.I, AH.L, AH.R, AH.wI, AH.wL, AH.wR, va_up_self]; rfl) hP hD hS
  · cases h
theorem ok_last (X : Cx G A own cc nL p s m args c) (hO : OpsOK O Nf Sf) (d : decode cc pc = .ok (.lastore, 1)) (hn : pc + 1 = nx) : OKi G A nL n0 sl0 ad0 p l e R s m args below meth c Q O ret r pc (e_last O nx) := by
  intro ls st x k h hk ad H locs cells slots lsA hR hl
  subst hn
  unfold e_last at h
  split at h
  · rename_i v i a q
    obtain ⟨hb, h⟩ := gd_some h
    rw [Bool.and_eq_true] at hb
    obtain ⟨g1, g2⟩ := isK_of hb.1
    refine va_last X.1 X.2.1 X.2.2.2.2.2.1 hR.1 hR.2.1 hR.2.2.1 a 1 (by rw [wsA_get g1, cE_long g2]) rfl (inb_of hb.2) d (fun H1 locs1 hP hD hS => ?_)
    refine hk _ _ _ _ h ad H1 locs1 cells slots lsA ?_ hl
    rw [hO.2.1]
    exact hR.wL (by rw [cE_long (h := (O.emb x).wL a (va_up ((O.emb x).L a) i.toNatClampNeg v)) g2]; simp only [AH.n, AH.sl, AH.sh, AH.I, AH.L, AH.R, AH.wI, AH.wL, AH.wR, va_up_self]; rfl) hP hD hS
  · cases h
end OKH
