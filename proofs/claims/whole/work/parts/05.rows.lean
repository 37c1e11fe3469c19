section OKS2
variable {ad0 : Nat → Nat} {G : Gm} {A : Nat → Prop} {own : String} {cc : ByteArray} {nL n0 sl0 : Nat} {p : Program} {l : Launch} {e : Env} {R : Room} {s : State} {m : MethodId} {args : Array Value} {below : List Frame} {meth : Method} {c : Code} {Q : State → Prop} {σ ρ : Type} {O : Ops σ} {ret : Option Value → σ → Option ρ} {r : ρ} {pc nx : Nat}
theorem ok_istore_n (X : Cx G A own cc nL p s m args c) {j : Fin 4} {i : Nat} (d : decode cc pc = .ok (.istore_n j, 1)) (hi : (j : Nat) = i) (hn : pc + 1 = nx) : OKi G A nL n0 sl0 ad0 p l e R s m args below meth c Q O ret r pc (e_istore i nx) := by
  intro ls st x k h hk ad H locs cells slots lsA hR hl
  subst hn
  unfold e_istore at h
  split at h
  · rename_i v q
    obtain ⟨hb, h⟩ := gd_some h
    have hb := Nat.le_of_ble_eq_true hb
    have hlen := hl.2.1
    exact lv_istore_n X.1 X.2.1 d hi hl.has (by omega) rfl (fun lsB hB => hk _ _ _ _ h ad H locs cells slots lsB hR (hl.of1 (v := .int v) (by omega) hB))
  · cases h
theorem ok_istore (X : Cx G A own cc nL p s m args c) {i : Nat} (d : decode cc pc = .ok (.istore i, 2)) (hn : pc + 2 = nx) : OKi G A nL n0 sl0 ad0 p l e R s m args below meth c Q O ret r pc (e_istore i nx) := by
  intro ls st x k h hk ad H locs cells slots lsA hR hl
  subst hn
  unfold e_istore at h
  split at h
  · rename_i v q
    obtain ⟨hb, h⟩ := gd_some h
    have hb := Nat.le_of_ble_eq_true hb
    have hlen := hl.2.1
    exact lv_istore X.1 X.2.1 d hl.has (by omega) rfl (fun lsB hB => hk _ _ _ _ h ad H locs cells slots lsB hR (hl.of1 (v := .int v) (by omega) hB))
  · cases h
theorem ok_lstore_n (X : Cx G A own cc nL p s m args c) {j : Fin 4} {i : Nat} (d : decode cc pc = .ok (.lstore_n j, 1)) (hi : (j : Nat) = i) (hn : pc + 1 = nx) : OKi G A nL n0 sl0 ad0 p l e R s m args below meth c Q O ret r pc (e_lstore i nx) := by
  intro ls st x k h hk ad H locs cells slots lsA hR hl
  subst hn
  unfold e_lstore at h
  split at h
  · rename_i v q
    obtain ⟨hb, h⟩ := gd_some h
    have hb := Nat.le_of_ble_eq_true hb
    have hlen := hl.2.1
    exact lv_lstore_n X.1 X.2.1 d hi hl.has (by omega) rfl (fun lsB hB => hk _ _ _ _ h ad H locs cells slots lsB hR (hl.of2 (v := .long v) (by omega) hB))
  · cases h
theorem ok_lstore (X : Cx G A own cc nL p s m args c) {i : Nat} (d : decode cc pc = .ok (.lstore i, 2)) (hn : pc + 2 = nx) : OKi G A nL n0 sl0 ad0 p l e R s m args below meth c Q O ret r pc (e_lstore i nx) := by
  intro ls st x k h hk ad H locs cells slots lsA hR hl
  subst hn
  unfold e_lstore at h
  split at h
  · rename_i v q
    obtain ⟨hb, h⟩ := gd_some h
    have hb := Nat.le_of_ble_eq_true hb
    have hlen := hl.2.1
    exact lv_lstore X.1 X.2.1 d hl.has (by omega) rfl (fun lsB hB => hk _ _ _ _ h ad H locs cells slots lsB hR (hl.of2 (v := .long v) (by omega) hB))
  · cases h
theorem ok_astore_n (X : Cx G A own cc nL p s m args c) {j : Fin 4} {i : Nat} (d : decode cc pc = .ok (.astore_n j, 1)) (hi : (j : Nat) = i) (hn : pc + 1 = nx) : OKi G A nL n0 sl0 ad0 p l e R s m args below meth c Q O ret r pc (e_astore i nx) := by
  intro ls st x k h hk ad H locs cells slots lsA hR hl
  subst hn
  unfold e_astore at h
  split at h
  · rename_i v q
    obtain ⟨hb, h⟩ := gd_some h
    have hb := Nat.le_of_ble_eq_true hb
    have hlen := hl.2.1
    exact lv_astore_n X.1 X.2.1 d hi hl.has (by omega) rfl (fun lsB hB => hk _ _ _ _ h ad H locs cells slots lsB hR (hl.of1 (v := .ref v) (by omega) hB))
  · rename_i q
    obtain ⟨hb, h⟩ := gd_some h
    have hb := Nat.le_of_ble_eq_true hb
    have hlen := hl.2.1
    exact lv_astore_nN X.1 X.2.1 d hi hl.has (by omega) rfl (fun lsB hB => hk _ _ _ _ h ad H locs cells slots lsB hR (hl.of1 (v := .null) (by omega) hB))
  · cases h
theorem ok_astore (X : Cx G A own cc nL p s m args c) {i : Nat} (d : decode cc pc = .ok (.astore i, 2)) (hn : pc + 2 = nx) : OKi G A nL n0 sl0 ad0 p l e R s m args below meth c Q O ret r pc (e_astore i nx) := by
  intro ls st x k h hk ad H locs cells slots lsA hR hl
  subst hn
  unfold e_astore at h
  split at h
  · rename_i v q
    obtain ⟨hb, h⟩ := gd_some h
    have hb := Nat.le_of_ble_eq_true hb
    have hlen := hl.2.1
    exact lv_astore X.1 X.2.1 d hl.has (by omega) rfl (fun lsB hB => hk _ _ _ _ h ad H locs cells slots lsB hR (hl.of1 (v := .ref v) (by omega) hB))
  · rename_i q
    obtain ⟨hb, h⟩ := gd_some h
    have hb := Nat.le_of_ble_eq_true hb
    have hlen := hl.2.1
    exact lv_astoreN X.1 X.2.1 d hl.has (by omega) rfl (fun lsB hB => hk _ _ _ _ h ad H locs cells slots lsB hR (hl.of1 (v := .null) (by omega) hB))
  · cases h
theorem ok_iinc (X : Cx G A own cc nL p s m args c) {i : Nat} {n : Int} {dl : Int32} (d : decode cc pc = .ok (.iinc i n, 3)) (hd : Int32.ofInt n = dl) (hn : pc + 3 = nx) : OKi G A nL n0 sl0 ad0 p l e R s m args below meth c Q O ret r pc (e_iinc i dl nx) := by
  intro ls st x k h hk ad H locs cells slots lsA hR hl
  subst hn
  subst hd
  unfold e_iinc at h
  split at h
  · rename_i v hv
    obtain ⟨hb, h⟩ := gd_some h
    have hb := Nat.le_of_ble_eq_true hb
    have hlen := hl.2.1
    rw [aAdd_eq] at h
    obtain ⟨q, hq⟩ := List.getElem?_of_mem (lvl_mem (ad := ad) hv)
    exact lv_iinc X.1 X.2.1 d hl.has hq rfl (by omega) rfl (fun lsB hB => hk _ _ _ _ h ad H locs cells slots lsB hR (hl.of1 (v := .int (v + Int32.ofInt n)) (by omega) hB))
  · cases h
theorem ok_dup (X : Cx G A own cc nL p s m args c) (d : decode cc pc = .ok (.dup, 1)) (hn : pc + 1 = nx) : OKi G A nL n0 sl0 ad0 p l e R s m args below meth c Q O ret r pc (e_dup nx) := by
  intro ls st x k h hk ad H locs cells slots lsA hR hl
  subst hn
  unfold e_dup at h
  split at h
  · exact lv_dup X.1 X.2.1 d rfl (hk _ _ _ _ h ad H locs cells slots lsA hR hl)
  · exact lv_dup X.1 X.2.1 d rfl (hk _ _ _ _ h ad H locs cells slots lsA hR hl)
  · exact lv_dup X.1 X.2.1 d rfl (hk _ _ _ _ h ad H locs cells slots lsA hR hl)
  · cases h
theorem ok_dup2 (X : Cx G A own cc nL p s m args c) (d : decode cc pc = .ok (.dup2, 1)) (hn : pc + 1 = nx) : OKi G A nL n0 sl0 ad0 p l e R s m args below meth c Q O ret r pc (e_dup2 nx) := by
  intro ls st x k h hk ad H locs cells slots lsA hR hl
  subst hn
  unfold e_dup2 at h
  split at h
  · exact lv_dup2_11 X.1 X.2.1 d rfl rfl (hk _ _ _ _ h ad H locs cells slots lsA hR hl)
  · cases h
theorem ok_pop (X : Cx G A own cc nL p s m args c) (d : decode cc pc = .ok (.pop, 1)) (hn : pc + 1 = nx) : OKi G A nL n0 sl0 ad0 p l e R s m args below meth c Q O ret r pc (e_pop nx) := by
  intro ls st x k h hk ad H locs cells slots lsA hR hl
  subst hn
  unfold e_pop at h
  split at h
  · exact lv_pop X.1 X.2.1 d rfl (hk _ _ _ _ h ad H locs cells slots lsA hR hl)
  · exact lv_pop X.1 X.2.1 d rfl (hk _ _ _ _ h ad H locs cells slots lsA hR hl)
  · exact lv_pop X.1 X.2.1 d rfl (hk _ _ _ _ h ad H locs cells slots lsA hR hl)
  · cases h
theorem ok_iadd (X : Cx G A own cc nL p s m args c) (d : decode cc pc = .ok (.iadd, 1)) (hn : pc + 1 = nx) : OKi G A nL n0 sl0 ad0 p l e R s m args below meth c Q O ret r pc (e_bin aAdd nx) := by
  intro ls st x k h hk ad H locs cells slots lsA hR hl
  subst hn
  unfold e_bin at h
  split at h
  · simp only [aAdd_eq] at h
    exact lv_iadd X.1 X.2.1 d (hk _ _ _ _ h ad H locs cells slots lsA hR hl)
  · cases h
theorem ok_isub (X : Cx G A own cc nL p s m args c) (d : decode cc pc = .ok (.isub, 1)) (hn : pc + 1 = nx) : OKi G A nL n0 sl0 ad0 p l e R s m args below meth c Q O ret r pc (e_bin aSub nx) := by
  intro ls st x k h hk ad H locs cells slots lsA hR hl
  subst hn
  unfold e_bin at h
  split at h
  · simp only [aSub_eq] at h
    exact lv_isub X.1 X.2.1 d (hk _ _ _ _ h ad H locs cells slots lsA hR hl)
  · cases h
theorem ok_imul (X : Cx G A own cc nL p s m args c) (d : decode cc pc = .ok (.imul, 1)) (hn : pc + 1 = nx) : OKi G A nL n0 sl0 ad0 p l e R s m args below meth c Q O ret r pc (e_bin aMul nx) := by
  intro ls st x k h hk ad H locs cells slots lsA hR hl
  subst hn
  unfold e_bin at h
  split at h
  · simp only [aMul_eq] at h
    exact lv_imul X.1 X.2.1 d (hk _ _ _ _ h ad H locs cells slots lsA hR hl)
  · cases h
theorem ok_iand (X : Cx G A own cc nL p s m args c) (d : decode cc pc = .ok (.iand, 1)) (hn : pc + 1 = nx) : OKi G A nL n0 sl0 ad0 p l e R s m args below meth c Q O ret r pc (e_bin aAnd nx) := by
  intro ls st x k h hk ad H locs cells slots lsA hR hl
  subst hn
  unfold e_bin at h
  split at h
  · simp only [aAnd_eq] at h
    exact lv_iand X.1 X.2.1 d (hk _ _ _ _ h ad H locs cells slots lsA hR hl)
  · cases h
theorem ok_ior (X : Cx G A own cc nL p s m args c) (d : decode cc pc = .ok (.ior, 1)) (hn : pc + 1 = nx) : OKi G A nL n0 sl0 ad0 p l e R s m args below meth c Q O ret r pc (e_bin aOr nx) := by
  intro ls st x k h hk ad H locs cells slots lsA hR hl
  subst hn
  unfold e_bin at h
  split at h
  · simp only [aOr_eq] at h
    exact lv_ior X.1 X.2.1 d (hk _ _ _ _ h ad H locs cells slots lsA hR hl)
  · cases h
theorem ok_ixor (X : Cx G A own cc nL p s m args c) (d : decode cc pc = .ok (.ixor, 1)) (hn : pc + 1 = nx) : OKi G A nL n0 sl0 ad0 p l e R s m args below meth c Q O ret r pc (e_bin aXor nx) := by
  intro ls st x k h hk ad H locs cells slots lsA hR hl
  subst hn
  unfold e_bin at h
  split at h
  · simp only [aXor_eq] at h
    exact lv_ixor X.1 X.2.1 d (hk _ _ _ _ h ad H locs cells slots lsA hR hl)
  · cases h
theorem ok_ishl (X : Cx G A own cc nL p s m args c) (d : decode cc pc = .ok (.ishl, 1)) (hn : pc + 1 = nx) : OKi G A nL n0 sl0 ad0 p l e R s m args below meth c Q O ret r pc (e_bin aShl nx) := by
  intro ls st x k h hk ad H locs cells slots lsA hR hl
  subst hn
  unfold e_bin at h
  split at h
  · simp only [aShl_eq] at h
    exact lv_ishl X.1 X.2.1 d (hk _ _ _ _ h ad H locs cells slots lsA hR hl)
  · cases h
theorem ok_ishr (X : Cx G A own cc nL p s m args c) (d : decode cc pc = .ok (.ishr, 1)) (hn : pc + 1 = nx) : OKi G A nL n0 sl0 ad0 p l e R s m args below meth c Q O ret r pc (e_bin aShr nx) := by
  intro ls st x k h hk ad H locs cells slots lsA hR hl
  subst hn
  unfold e_bin at h
  split at h
  · simp only [aShr_eq] at h
    exact lv_ishr X.1 X.2.1 d (hk _ _ _ _ h ad H locs cells slots lsA hR hl)
  · cases h
theorem ok_iushr (X : Cx G A own cc nL p s m args c) (d : decode cc pc = .ok (.iushr, 1)) (hn : pc + 1 = nx) : OKi G A nL n0 sl0 ad0 p l e R s m args below meth c Q O ret r pc (e_bin aUshr nx) := by
  intro ls st x k h hk ad H locs cells slots lsA hR hl
  subst hn
  unfold e_bin at h
  split at h
  · simp only [aUshr_eq] at h
    exact lv_iushr X.1 X.2.1 d rfl (hk _ _ _ _ h ad H locs cells slots lsA hR hl)
  · cases h
theorem ok_idiv (X : Cx G A own cc nL p s m args c) (d : decode cc pc = .ok (.idiv, 1)) (hn : pc + 1 = nx) : OKi G A nL n0 sl0 ad0 p l e R s m args below meth c Q O ret r pc (e_div aDiv nx) := by
  intro ls st x k h hk ad H locs cells slots lsA hR hl
  subst hn
  unfold e_div at h
  split at h
  · split at h
    · cases h
    · rename_i hz
      simp only [aDiv_eq] at h
      exact lv_idiv X.1 X.2.1 d hz (hk _ _ _ _ h ad H locs cells slots lsA hR hl)
  · cases h
theorem ok_irem (X : Cx G A own cc nL p s m args c) (d : decode cc pc = .ok (.irem, 1)) (hn : pc + 1 = nx) : OKi G A nL n0 sl0 ad0 p l e R s m args below meth c Q O ret r pc (e_div aRem nx) := by
  intro ls st x k h hk ad H locs cells slots lsA hR hl
  subst hn
  unfold e_div at h
  split at h
  · split at h
    · cases h
    · rename_i hz
      simp only [aRem_eq] at h
      exact lv_irem X.1 X.2.1 d hz (hk _ _ _ _ h ad H locs cells slots lsA hR hl)
  · cases h
theorem ok_ldiv (X : Cx G A own cc nL p s m args c) (d : decode cc pc = .ok (.ldiv, 1)) (hn : pc + 1 = nx) : OKi G A nL n0 sl0 ad0 p l e R s m args below meth c Q O ret r pc (e_ldiv lDiv nx) := by
  intro ls st x k h hk ad H locs cells slots lsA hR hl
  subst hn
  unfold e_ldiv at h
  split at h
  · split at h
    · cases h
    · rename_i hz
      simp only [lDiv_eq] at h
      exact lv_ldiv X.1 X.2.1 d hz (hk _ _ _ _ h ad H locs cells slots lsA hR hl)
  · cases h
theorem ok_lrem (X : Cx G A own cc nL p s m args c) (d : decode cc pc = .ok (.lrem, 1)) (hn : pc + 1 = nx) : OKi G A nL n0 sl0 ad0 p l e R s m args below meth c Q O ret r pc (e_ldiv lRem nx) := by
  intro ls st x k h hk ad H locs cells slots lsA hR hl
  subst hn
  unfold e_ldiv at h
  split at h
  · split at h
    · cases h
    · rename_i hz
      simp only [lRem_eq] at h
      exact lv_lrem X.1 X.2.1 d hz (hk _ _ _ _ h ad H locs cells slots lsA hR hl)
  · cases h
theorem ok_ladd (X : Cx G A own cc nL p s m args c) (d : decode cc pc = .ok (.ladd, 1)) (hn : pc + 1 = nx) : OKi G A nL n0 sl0 ad0 p l e R s m args below meth c Q O ret r pc (e_lbin lAdd nx) := by
  intro ls st x k h hk ad H locs cells slots lsA hR hl
  subst hn
  unfold e_lbin at h
  split at h
  · simp only [lAdd_eq] at h
    exact lv_ladd X.1 X.2.1 d (hk _ _ _ _ h ad H locs cells slots lsA hR hl)
  · cases h
theorem ok_lsub (X : Cx G A own cc nL p s m args c) (d : decode cc pc = .ok (.lsub, 1)) (hn : pc + 1 = nx) : OKi G A nL n0 sl0 ad0 p l e R s m args below meth c Q O ret r pc (e_lbin lSub nx) := by
  intro ls st x k h hk ad H locs cells slots lsA hR hl
  subst hn
  unfold e_lbin at h
  split at h
  · simp only [lSub_eq] at h
    exact lv_lsub X.1 X.2.1 d (hk _ _ _ _ h ad H locs cells slots lsA hR hl)
  · cases h
theorem ok_lmul (X : Cx G A own cc nL p s m args c) (d : decode cc pc = .ok (.lmul, 1)) (hn : pc + 1 = nx) : OKi G A nL n0 sl0 ad0 p l e R s m args below meth c Q O ret r pc (e_lbin lMul nx) := by
  intro ls st x k h hk ad H locs cells slots lsA hR hl
  subst hn
  unfold e_lbin at h
  split at h
  · simp only [lMul_eq] at h
    exact lv_lmul X.1 X.2.1 d (hk _ _ _ _ h ad H locs cells slots lsA hR hl)
  · cases h
theorem ok_land (X : Cx G A own cc nL p s m args c) (d : decode cc pc = .ok (.land, 1)) (hn : pc + 1 = nx) : OKi G A nL n0 sl0 ad0 p l e R s m args below meth c Q O ret r pc (e_lbin lAnd nx) := by
  intro ls st x k h hk ad H locs cells slots lsA hR hl
  subst hn
  unfold e_lbin at h
  split at h
  · simp only [lAnd_eq] at h
    exact lv_land X.1 X.2.1 d (hk _ _ _ _ h ad H locs cells slots lsA hR hl)
  · cases h
theorem ok_lor (X : Cx G A own cc nL p s m args c) (d : decode cc pc = .ok (.lor, 1)) (hn : pc + 1 = nx) : OKi G A nL n0 sl0 ad0 p l e R s m args below meth c Q O ret r pc (e_lbin lOr nx) := by
  intro ls st x k h hk ad H locs cells slots lsA hR hl
  subst hn
  unfold e_lbin at h
  split at h
  · simp only [lOr_eq] at h
    exact lv_lor X.1 X.2.1 d (hk _ _ _ _ h ad H locs cells slots lsA hR hl)
  · cases h
theorem ok_lshl (X : Cx G A own cc nL p s m args c) (d : decode cc pc = .ok (.lshl, 1)) (hn : pc + 1 = nx) : OKi G A nL n0 sl0 ad0 p l e R s m args below meth c Q O ret r pc (e_lsh lShl nx) := by
  intro ls st x k h hk ad H locs cells slots lsA hR hl
  subst hn
  unfold e_lsh at h
  split at h
  · simp only [lShl_eq] at h
    exact lv_lshl X.1 X.2.1 d rfl (hk _ _ _ _ h ad H locs cells slots lsA hR hl)
  · cases h
theorem ok_lcmp (X : Cx G A own cc nL p s m args c) (d : decode cc pc = .ok (.lcmp, 1)) (hn : pc + 1 = nx) : OKi G A nL n0 sl0 ad0 p l e R s m args below meth c Q O ret r pc (e_lcmp nx) := by
  intro ls st x k h hk ad H locs cells slots lsA hR hl
  subst hn
  unfold e_lcmp at h
  split at h
  · simp only [lCmp_eq] at h
    exact W.lcmp X.1 X.2.1 d (hk _ _ _ _ h ad H locs cells slots lsA hR hl)
  · cases h
theorem ok_ineg (X : Cx G A own cc nL p s m args c) (d : decode cc pc = .ok (.ineg, 1)) (hn : pc + 1 = nx) : OKi G A nL n0 sl0 ad0 p l e R s m args below meth c Q O ret r pc (e_un aNeg nx) := by
  intro ls st x k h hk ad H locs cells slots lsA hR hl
  subst hn
  unfold e_un at h
  split at h
  · simp only [aNeg_eq] at h
    exact lv_ineg X.1 X.2.1 d (hk _ _ _ _ h ad H locs cells slots lsA hR hl)
  · cases h
theorem ok_i2b (X : Cx G A own cc nL p s m args c) (d : decode cc pc = .ok (.i2b, 1)) (hn : pc + 1 = nx) : OKi G A nL n0 sl0 ad0 p l e R s m args below meth c Q O ret r pc (e_un aB nx) := by
  intro ls st x k h hk ad H locs cells slots lsA hR hl
  subst hn
  unfold e_un at h
  split at h
  · simp only [aB_eq] at h
    exact lv_i2b X.1 X.2.1 d rfl (hk _ _ _ _ h ad H locs cells slots lsA hR hl)
  · cases h
theorem ok_i2s (X : Cx G A own cc nL p s m args c) (d : decode cc pc = .ok (.i2s, 1)) (hn : pc + 1 = nx) : OKi G A nL n0 sl0 ad0 p l e R s m args below meth c Q O ret r pc (e_un aS nx) := by
  intro ls st x k h hk ad H locs cells slots lsA hR hl
  subst hn
  unfold e_un at h
  split at h
  · simp only [aS_eq] at h
    exact lv_i2s X.1 X.2.1 d rfl (hk _ _ _ _ h ad H locs cells slots lsA hR hl)
  · cases h
theorem ok_i2c (X : Cx G A own cc nL p s m args c) (d : decode cc pc = .ok (.i2c, 1)) (hn : pc + 1 = nx) : OKi G A nL n0 sl0 ad0 p l e R s m args below meth c Q O ret r pc (e_un aC nx) := by
  intro ls st x k h hk ad H locs cells slots lsA hR hl
  subst hn
  unfold e_un at h
  split at h
  · simp only [aC_eq] at h
    exact lv_i2c X.1 X.2.1 d rfl (hk _ _ _ _ h ad H locs cells slots lsA hR hl)
  · cases h
theorem ok_i2l (X : Cx G A own cc nL p s m args c) (d : decode cc pc = .ok (.i2l, 1)) (hn : pc + 1 = nx) : OKi G A nL n0 sl0 ad0 p l e R s m args below meth c Q O ret r pc (e_i2l nx) := by
  intro ls st x k h hk ad H locs cells slots lsA hR hl
  subst hn
  unfold e_i2l at h
  split at h
  · simp only [aI2L_eq] at h
    exact lv_i2l X.1 X.2.1 d rfl (hk _ _ _ _ h ad H locs cells slots lsA hR hl)
  · cases h
theorem ok_l2i (X : Cx G A own cc nL p s m args c) (d : decode cc pc = .ok (.l2i, 1)) (hn : pc + 1 = nx) : OKi G A nL n0 sl0 ad0 p l e R s m args below meth c Q O ret r pc (e_l2i nx) := by
  intro ls st x k h hk ad H locs cells slots lsA hR hl
  subst hn
  unfold e_l2i at h
  split at h
  · simp only [aL2I_eq] at h
    exact lv_l2i X.1 X.2.1 d rfl (hk _ _ _ _ h ad H locs cells slots lsA hR hl)
  · cases h
theorem ok_iflt (X : Cx G A own cc nL p s m args c) {off : Int} {tgt : Nat} (d : decode cc pc = .ok (.ifCond .lt off, 3)) (ht : (pc : Int) + off = (tgt : Int)) (hn : pc + 3 = nx) : OKi G A nL n0 sl0 ad0 p l e R s m args below meth c Q O ret r pc (e_iflt tgt nx) := by
  intro ls st x k h hk ad H locs cells slots lsA hR hl
  subst hn
  unfold e_iflt at h
  split at h
  · refine lv_if_lt X.1 X.2.1 d ht (fun z => ?_) (fun z => ?_)
    · rw [if_pos z] at h
      exact (hk _ _ _ _ h ad H locs cells slots lsA hR hl)
    · rw [if_neg z] at h
      exact (hk _ _ _ _ h ad H locs cells slots lsA hR hl)
  · cases h
theorem ok_ifge (X : Cx G A own cc nL p s m args c) {off : Int} {tgt : Nat} (d : decode cc pc = .ok (.ifCond .ge off, 3)) (ht : (pc : Int) + off = (tgt : Int)) (hn : pc + 3 = nx) : OKi G A nL n0 sl0 ad0 p l e R s m args below meth c Q O ret r pc (e_ifge tgt nx) := by
  intro ls st x k h hk ad H locs cells slots lsA hR hl
  subst hn
  unfold e_ifge at h
  split at h
  · refine lv_if_ge X.1 X.2.1 d ht (fun z => ?_) (fun z => ?_)
    · rw [if_neg (Int32.not_lt.mpr z)] at h
      exact (hk _ _ _ _ h ad H locs cells slots lsA hR hl)
    · rw [if_pos (Int32.not_le.mp z)] at h
      exact (hk _ _ _ _ h ad H locs cells slots lsA hR hl)
  · cases h
theorem ok_ifgt (X : Cx G A own cc nL p s m args c) {off : Int} {tgt : Nat} (d : decode cc pc = .ok (.ifCond .gt off, 3)) (ht : (pc : Int) + off = (tgt : Int)) (hn : pc + 3 = nx) : OKi G A nL n0 sl0 ad0 p l e R s m args below meth c Q O ret r pc (e_ifgt tgt nx) := by
  intro ls st x k h hk ad H locs cells slots lsA hR hl
  subst hn
  unfold e_ifgt at h
  split at h
  · refine lv_if_gt X.1 X.2.1 d ht (fun z => ?_) (fun z => ?_)
    · rw [if_pos z] at h
      exact (hk _ _ _ _ h ad H locs cells slots lsA hR hl)
    · rw [if_neg z] at h
      exact (hk _ _ _ _ h ad H locs cells slots lsA hR hl)
  · cases h
theorem ok_ifle (X : Cx G A own cc nL p s m args c) {off : Int} {tgt : Nat} (d : decode cc pc = .ok (.ifCond .le off, 3)) (ht : (pc : Int) + off = (tgt : Int)) (hn : pc + 3 = nx) : OKi G A nL n0 sl0 ad0 p l e R s m args below meth c Q O ret r pc (e_ifle tgt nx) := by
  intro ls st x k h hk ad H locs cells slots lsA hR hl
  subst hn
  unfold e_ifle at h
  split at h
  · refine lv_if_le X.1 X.2.1 d ht (fun z => ?_) (fun z => ?_)
    · rw [if_neg (Int32.not_lt.mpr z)] at h
      exact (hk _ _ _ _ h ad H locs cells slots lsA hR hl)
    · rw [if_pos (Int32.not_le.mp z)] at h
      exact (hk _ _ _ _ h ad H locs cells slots lsA hR hl)
  · cases h
theorem ok_ifeq (X : Cx G A own cc nL p s m args c) {off : Int} {tgt : Nat} (d : decode cc pc = .ok (.ifCond .eq off, 3)) (ht : (pc : Int) + off = (tgt : Int)) (hn : pc + 3 = nx) : OKi G A nL n0 sl0 ad0 p l e R s m args below meth c Q O ret r pc (e_ifeq tgt nx) := by
  intro ls st x k h hk ad H locs cells slots lsA hR hl
  subst hn
  unfold e_ifeq at h
  split at h
  · refine lv_if_eq X.1 X.2.1 d ht (fun z => ?_) (fun z => ?_)
    · rw [if_pos z] at h
      exact (hk _ _ _ _ h ad H locs cells slots lsA hR hl)
    · rw [if_neg z] at h
      exact (hk _ _ _ _ h ad H locs cells slots lsA hR hl)
  · cases h
theorem ok_ifne (X : Cx G A own cc nL p s m args c) {off : Int} {tgt : Nat} (d : decode cc pc = .ok (.ifCond .ne off, 3)) (ht : (pc : Int) + off = (tgt : Int)) (hn : pc + 3 = nx) : OKi G A nL n0 sl0 ad0 p l e R s m args below meth c Q O ret r pc (e_ifne tgt nx) := by
  intro ls st x k h hk ad H locs cells slots lsA hR hl
  subst hn
  unfold e_ifne at h
  split at h
  · refine lv_if_ne X.1 X.2.1 d ht (fun z => ?_) (fun z => ?_)
    · rw [if_neg z] at h
      exact (hk _ _ _ _ h ad H locs cells slots lsA hR hl)
    · rw [if_pos z] at h
      exact (hk _ _ _ _ h ad H locs cells slots lsA hR hl)
  · cases h
theorem ok_clt (X : Cx G A own cc nL p s m args c) {off : Int} {tgt : Nat} (d : decode cc pc = .ok (.if_icmp .lt off, 3)) (ht : (pc : Int) + off = (tgt : Int)) (hn : pc + 3 = nx) : OKi G A nL n0 sl0 ad0 p l e R s m args below meth c Q O ret r pc (e_clt tgt nx) := by
  intro ls st x k h hk ad H locs cells slots lsA hR hl
  subst hn
  unfold e_clt at h
  split at h
  · refine lv_icmp_lt X.1 X.2.1 d ht (fun z => ?_) (fun z => ?_)
    · rw [if_pos z] at h
      exact (hk _ _ _ _ h ad H locs cells slots lsA hR hl)
    · rw [if_neg z] at h
      exact (hk _ _ _ _ h ad H locs cells slots lsA hR hl)
  · cases h
theorem ok_cge (X : Cx G A own cc nL p s m args c) {off : Int} {tgt : Nat} (d : decode cc pc = .ok (.if_icmp .ge off, 3)) (ht : (pc : Int) + off = (tgt : Int)) (hn : pc + 3 = nx) : OKi G A nL n0 sl0 ad0 p l e R s m args below meth c Q O ret r pc (e_cge tgt nx) := by
  intro ls st x k h hk ad H locs cells slots lsA hR hl
  subst hn
  unfold e_cge at h
  split at h
  · refine lv_icmp_ge X.1 X.2.1 d ht (fun z => ?_) (fun z => ?_)
    · rw [if_neg (Int32.not_lt.mpr z)] at h
      exact (hk _ _ _ _ h ad H locs cells slots lsA hR hl)
    · rw [if_pos (Int32.not_le.mp z)] at h
      exact (hk _ _ _ _ h ad H locs cells slots lsA hR hl)
  · cases h
theorem ok_cgt (X : Cx G A own cc nL p s m args c) {off : Int} {tgt : Nat} (d : decode cc pc = .ok (.if_icmp .gt off, 3)) (ht : (pc : Int) + off = (tgt : Int)) (hn : pc + 3 = nx) : OKi G A nL n0 sl0 ad0 p l e R s m args below meth c Q O ret r pc (e_cgt tgt nx) := by
  intro ls st x k h hk ad H locs cells slots lsA hR hl
  subst hn
  unfold e_cgt at h
  split at h
  · refine lv_icmp_gt X.1 X.2.1 d ht (fun z => ?_) (fun z => ?_)
    · rw [if_pos z] at h
      exact (hk _ _ _ _ h ad H locs cells slots lsA hR hl)
    · rw [if_neg z] at h
      exact (hk _ _ _ _ h ad H locs cells slots lsA hR hl)
  · cases h
theorem ok_cle (X : Cx G A own cc nL p s m args c) {off : Int} {tgt : Nat} (d : decode cc pc = .ok (.if_icmp .le off, 3)) (ht : (pc : Int) + off = (tgt : Int)) (hn : pc + 3 = nx) : OKi G A nL n0 sl0 ad0 p l e R s m args below meth c Q O ret r pc (e_cle tgt nx) := by
  intro ls st x k h hk ad H locs cells slots lsA hR hl
  subst hn
  unfold e_cle at h
  split at h
  · refine lv_icmp_le X.1 X.2.1 d ht (fun z => ?_) (fun z => ?_)
    · rw [if_neg (Int32.not_lt.mpr z)] at h
      exact (hk _ _ _ _ h ad H locs cells slots lsA hR hl)
    · rw [if_pos (Int32.not_le.mp z)] at h
      exact (hk _ _ _ _ h ad H locs cells slots lsA hR hl)
  · cases h
theorem ok_ceq (X : Cx G A own cc nL p s m args c) {off : Int} {tgt : Nat} (d : decode cc pc = .ok (.if_icmp .eq off, 3)) (ht : (pc : Int) + off = (tgt : Int)) (hn : pc + 3 = nx) : OKi G A nL n0 sl0 ad0 p l e R s m args below meth c Q O ret r pc (e_ceq tgt nx) := by
  intro ls st x k h hk ad H locs cells slots lsA hR hl
  subst hn
  unfold e_ceq at h
  split at h
  · refine lv_icmp_eq X.1 X.2.1 d ht (fun z => ?_) (fun z => ?_)
    · rw [if_pos z] at h
      exact (hk _ _ _ _ h ad H locs cells slots lsA hR hl)
    · rw [if_neg z] at h
      exact (hk _ _ _ _ h ad H locs cells slots lsA hR hl)
  · cases h
theorem ok_cne (X : Cx G A own cc nL p s m args c) {off : Int} {tgt : Nat} (d : decode cc pc = .ok (.if_icmp .ne off, 3)) (ht : (pc : Int) + off = (tgt : Int)) (hn : pc + 3 = nx) : OKi G A nL n0 sl0 ad0 p l e R s m args below meth c Q O ret r pc (e_cne tgt nx) := by
  intro ls st x k h hk ad H locs cells slots lsA hR hl
  subst hn
  unfold e_cne at h
  split at h
  · refine lv_icmp_ne X.1 X.2.1 d ht (fun z => ?_) (fun z => ?_)
    · rw [if_neg z] at h
      exact (hk _ _ _ _ h ad H locs cells slots lsA hR hl)
    · rw [if_pos z] at h
      exact (hk _ _ _ _ h ad H locs cells slots lsA hR hl)
  · cases h
theorem ok_goto (X : Cx G A own cc nL p s m args c) {off : Int} {tgt : Nat} (d : decode cc pc = .ok (.goto off, 3)) (ht : (pc : Int) + off = (tgt : Int)) : OKi G A nL n0 sl0 ad0 p l e R s m args below meth c Q O ret r pc (e_goto tgt) := by
  intro ls st x k h hk ad H locs cells slots lsA hR hl
  exact lv_goto X.1 X.2.1 d ht (hk _ _ _ _ h ad H locs cells slots lsA hR hl)
theorem ok_ifnull (X : Cx G A own cc nL p s m args c) {off : Int} {tgt : Nat} (d : decode cc pc = .ok (.ifnull off, 3)) (ht : (pc : Int) + off = (tgt : Int)) (hn : pc + 3 = nx) : OKi G A nL n0 sl0 ad0 p l e R s m args below meth c Q O ret r pc (e_ifnull tgt nx) := by
  intro ls st x k h hk ad H locs cells slots lsA hR hl
  subst hn
  unfold e_ifnull at h
  split at h
  · exact lv_ifnullN X.1 X.2.1 d ht (hk _ _ _ _ h ad H locs cells slots lsA hR hl)
  · exact lv_ifnull X.1 X.2.1 d (hk _ _ _ _ h ad H locs cells slots lsA hR hl)
  · cases h
/-- where a switch goes -/
def swT (x : Int32) (d : Nat) : List (Int32 × Nat) → Nat
  | [] => d
  | q :: r => if x = q.1 then q.2 else swT x d r
theorem swt_eq {ρ : Type} (x : Int32) (d : Nat) (k : Nat → Option ρ) : ∀ cs : List (Int32 × Nat), swt x d k cs = k (swT x d cs)
  | [] => rfl
  | q :: r => by
    unfold swt swT
    split
    · rfl
    · exact swt_eq x d k r
theorem ok_lsw (X : Cx G A own cc nL p s m args c) {dflt : Int} {ps : Array (Int × Int)} {len : Nat} {cs : List (Int32 × Nat)} {dd : Nat} (d : decode cc pc = .ok (.lookupswitch dflt ps, len)) (hp : (ps.toList.zip (ps.toList.drop 1)).all (fun (a, next) => a.1 < next.1) = true) (hs : ∀ x : Int32, (pc : Int) + Op.lookupswitch.offset ps.toList dflt x.toInt = (swT x dd cs : Int)) : OKi G A nL n0 sl0 ad0 p l e R s m args below meth c Q O ret r pc (e_sw cs dd) := by
  intro ls st x k h hk ad H locs cells slots lsA hR hl
  unfold e_sw at h
  split at h
  · rename_i v q
    rw [swt_eq] at h
    exact lv_lookup X.1 X.2.1 d hp rfl (hs v) (hk _ _ _ _ h ad H locs cells slots lsA hR hl)
  · cases h
theorem ok_tsw (X : Cx G A own cc nL p s m args c) {dflt lo hi : Int} {offs : Array Int} {len : Nat} {cs : List (Int32 × Nat)} {dd : Nat} (d : decode cc pc = .ok (.tableswitch dflt lo hi offs, len)) (hout : ∀ x : Int32, (x.toInt < lo ∨ hi < x.toInt) → (pc : Int) + dflt = (swT x dd cs : Int)) (hins : ∀ x : Int32, ¬ x.toInt < lo → ¬ hi < x.toInt → ∃ off, offs[(x.toInt - lo).toNat]? = some off ∧ (pc : Int) + off = (swT x dd cs : Int)) : OKi G A nL n0 sl0 ad0 p l e R s m args below meth c Q O ret r pc (e_sw cs dd) := by
  intro ls st x k h hk ad H locs cells slots lsA hR hl
  unfold e_sw at h
  split at h
  · rename_i v q
    rw [swt_eq] at h
    by_cases h1 : v.toInt < lo ∨ hi < v.toInt
    · exact lv_tableOut X.1 X.2.1 d h1 (hout v h1) (hk _ _ _ _ h ad H locs cells slots lsA hR hl)
    · have h2 : ¬ v.toInt < lo := fun z => h1 (Or.inl z)
      have h3 : ¬ hi < v.toInt := fun z => h1 (Or.inr z)
      obtain ⟨off, g1, g2⟩ := hins v h2 h3
      exact lv_tableIn X.1 X.2.1 d h2 h3 g1 g2 (hk _ _ _ _ h ad H locs cells slots lsA hR hl)
  · cases h
end OKS2
