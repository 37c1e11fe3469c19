/-! HatRank$Bodies has -/
noncomputable def tb_X0_has (cal : Cal SS) : List (Nat × Ins SS) := [(0, e_iload 1 1), (1, e_iflt 16 4), (4, e_iload 1 5), (5, e_aload 0 6), (6, e_getI opsS 0 0 9), (9, e_cge 16 12), (12, e_iconst (1) 13), (13, e_goto 17), (16, e_iconst (0) 17), (17, e_zret)]
set_option maxRecDepth 100000 in
set_option maxHeartbeats 4000000 in
theorem tk_X0_has {ad0 : Nat → Nat} {G : Gm} {A : Nat → Prop} {p : Program} {l : Launch} {e : Env} {R : Room} {s0 : State} {m : MethodId} {args : Array Value} {below : List Frame} {meth : Method} {c : Code} {Q : State → Prop} {ρ : Type} {ret : Option Value → SS → Option ρ} {r : ρ} (X : Cx G A RX0 cX0_has 2 p s0 m args c) {D' : Nat} {cal : Cal SS} (hcal : calOK l G opsS D' cal) (hRm : ∀ k, k ≤ 21 → D' + 1 ≤ R.frames ∧ 8 + (k + 11) + 40 * D' ≤ R.locals) (hret : RetK G A cX0_has 113 6344 ad0 p l e R s0 m args below meth c Q opsS ret r .ireturn okZ) : ∀ q ∈ tb_X0_has cal, OKi G A 2 113 6344 ad0 p l e R s0 m args below meth c Q opsS ret r q.1 q.2 :=
    okc (ok_iload_n (j := 1) X (by decide +kernel) rfl rfl) (
    okc (ok_iflt (off := 15) X (by decide +kernel) (by decide) rfl) (
    okc (ok_iload_n (j := 1) X (by decide +kernel) rfl rfl) (
    okc (ok_aload_n (j := 0) X (by decide +kernel) rfl rfl) (
    okc (ok_getI (ci := 0) (kf := 0) (idx := 18) (C := RX0) (T := TX0) (N := 5) X rfl (by decide) inX0 (by decide) wf_X0_18 (fun _ _ _ => rfl) (by decide +kernel) rfl) (
    okc (ok_cge (off := 7) X (by decide +kernel) (by decide) rfl) (
    okc (ok_iconst (n := 1) X (by decide +kernel) rfl rfl) (
    okc (ok_goto (off := 4) X (by decide +kernel) (by decide)) (
    okc (ok_iconst (n := 0) X (by decide +kernel) rfl rfl) (
    okc (ok_zret hret (by decide +kernel)) (
    okn))))))))))
noncomputable def es_X0_has  : List (Nat × En) := []
set_option maxRecDepth 100000 in
set_option maxHeartbeats 4000000 in
theorem eq_X0_has   (a0 : Int32) (s : SS) : ex (tb_X0_has (calE (es_X0_has))) rI [] (fun _ _ _ _ => none) 12 0 [some (.ref 55), some (.int a0)] [] s = f_X0_has a0 s := by
  rfl
set_option maxRecDepth 100000 in
set_option maxHeartbeats 4000000 in
theorem run_X0_has {l : Launch} {G : Gm}   (a0 : Int32) (s : SS) (q : (Int32 × SS)) (h : f_X0_has a0 s = some q) (D' : Nat) (hD : 0 ≤ D') : RunsM l G (D' + 1) (md 1) (embS s) [.ref 55, .int a0] (some (.int q.1)) (embS q.2) := by
  rw [md_X0_has]
  refine runs_Z (plainFor_of_name (by decide +kernel)) (Nat.le_of_ble_eq_true rfl) rfl ?_
  intro A p e R s0 m args below meth c Q ad0 hR X hret
  have X : Cx G A RX0 cX0_has 2 p s0 m args c := X
  have hT := tk_X0_has X (calE_ok (es := es_X0_has) (enn)) (rmD rfl hR) hret
  rw [← eq_X0_has   a0 s] at h
  refine ex_good hT (fun pc' ls' st' x' hh => ?_) 12 0 _ [] s h
  cases hh

noncomputable def en_X0_has  : En := fun _ av s k => match av with
  | [.ref r0, .int a0] => (gd (Nat.beq r0 55) (bI (f_X0_has a0 s) k))
  | _ => none
set_option maxRecDepth 100000 in
set_option maxHeartbeats 4000000 in
theorem en_X0_has_ok {l : Launch} {G : Gm} (D : Nat) (hD : 1 ≤ D) : enOK l G D 1 en_X0_has := by
  intro ρ av x k r h
  unfold en_X0_has at h
  split at h
  · obtain ⟨g0, h⟩ := gd_some h
    obtain ⟨q, h1, h2⟩ := bind_of h
    have e0 := beq1 g0
    subst e0
    obtain ⟨D', rfl⟩ : ∃ D', D = D' + 1 := ⟨D - 1, by omega⟩
    exact ⟨_, _, h2, run_X0_has  _ _ _ h1 D' (by omega)⟩
  · cases h

/-! HatRank$Bodies add -/
noncomputable def tb_X0_add (cal : Cal SS) : List (Nat × Ins SS) := [(0, e_aload 0 1), (1, e_getI opsS 0 0 4), (4, e_iconst (50) 6), (6, e_clt 12 9), (9, e_iconst (-3) 11), (11, e_iret), (12, e_aload 0 13), (13, e_getR opsS 0 2 16), (16, e_aload 0 17), (17, e_getI opsS 0 0 20), (20, e_iload 1 21), (21, e_ast opsS 100 (fun v => v) 22), (22, e_aload 0 23), (23, e_dup 24), (24, e_getI opsS 0 0 27), (27, e_iconst (1) 28), (28, e_bin aAdd 29), (29, e_putI opsS 0 0 32), (32, e_aload 0 33), (33, e_getI opsS 0 0 36), (36, e_iconst (1) 37), (37, e_bin aSub 38), (38, e_iret)]
set_option maxRecDepth 100000 in
set_option maxHeartbeats 4000000 in
theorem tk_X0_add {ad0 : Nat → Nat} {G : Gm} {A : Nat → Prop} {p : Program} {l : Launch} {e : Env} {R : Room} {s0 : State} {m : MethodId} {args : Array Value} {below : List Frame} {meth : Method} {c : Code} {Q : State → Prop} {ρ : Type} {ret : Option Value → SS → Option ρ} {r : ρ} (X : Cx G A RX0 cX0_add 2 p s0 m args c) {D' : Nat} {cal : Cal SS} (hcal : calOK l G opsS D' cal) (hRm : ∀ k, k ≤ 21 → D' + 1 ≤ R.frames ∧ 8 + (k + 11) + 40 * D' ≤ R.locals) (hret : RetK G A cX0_add 113 6344 ad0 p l e R s0 m args below meth c Q opsS ret r .ireturn okI) : ∀ q ∈ tb_X0_add cal, OKi G A 2 113 6344 ad0 p l e R s0 m args below meth c Q opsS ret r q.1 q.2 :=
    okc (ok_aload_n (j := 0) X (by decide +kernel) rfl rfl) (
    okc (ok_getI (ci := 0) (kf := 0) (idx := 18) (C := RX0) (T := TX0) (N := 5) X rfl (by decide) inX0 (by decide) wf_X0_18 (fun _ _ _ => rfl) (by decide +kernel) rfl) (
    okc (ok_bipush (n := 50) X (by decide +kernel) rfl rfl) (
    okc (ok_clt (off := 6) X (by decide +kernel) (by decide) rfl) (
    okc (ok_bipush (n := -3) X (by decide +kernel) rfl rfl) (
    okc (ok_iret hret (by decide +kernel)) (
    okc (ok_aload_n (j := 0) X (by decide +kernel) rfl rfl) (
    okc (ok_getR (ci := 0) (kf := 2) (idx := 11) (C := RX0) (T := TX0) (N := 5) X rfl (by decide) inX0 (by decide) wf_X0_11 (fun _ _ _ => rfl) (by decide +kernel) rfl) (
    okc (ok_aload_n (j := 0) X (by decide +kernel) rfl rfl) (
    okc (ok_getI (ci := 0) (kf := 0) (idx := 18) (C := RX0) (T := TX0) (N := 5) X rfl (by decide) inX0 (by decide) wf_X0_18 (fun _ _ _ => rfl) (by decide +kernel) rfl) (
    okc (ok_iload_n (j := 1) X (by decide +kernel) rfl rfl) (
    okc (ok_iast X opsS_ok (by decide +kernel) rfl) (
    okc (ok_aload_n (j := 0) X (by decide +kernel) rfl rfl) (
    okc (ok_dup X (by decide +kernel) rfl) (
    okc (ok_getI (ci := 0) (kf := 0) (idx := 18) (C := RX0) (T := TX0) (N := 5) X rfl (by decide) inX0 (by decide) wf_X0_18 (fun _ _ _ => rfl) (by decide +kernel) rfl) (
    okc (ok_iconst (n := 1) X (by decide +kernel) rfl rfl) (
    okc (ok_iadd X (by decide +kernel) rfl) (
    okc (ok_putI (ci := 0) (kf := 0) (idx := 18) (C := RX0) (T := TX0) (N := 5) X opsS_ok rfl (by decide) inX0 tyX0_ok nmX0 (by decide) wf_X0_18 rfl (fun _ _ _ => rfl) (by decide +kernel) (by decide +kernel) rfl) (
    okc (ok_aload_n (j := 0) X (by decide +kernel) rfl rfl) (
    okc (ok_getI (ci := 0) (kf := 0) (idx := 18) (C := RX0) (T := TX0) (N := 5) X rfl (by decide) inX0 (by decide) wf_X0_18 (fun _ _ _ => rfl) (by decide +kernel) rfl) (
    okc (ok_iconst (n := 1) X (by decide +kernel) rfl rfl) (
    okc (ok_isub X (by decide +kernel) rfl) (
    okc (ok_iret hret (by decide +kernel)) (
    okn)))))))))))))))))))))))
noncomputable def es_X0_add  : List (Nat × En) := []
set_option maxRecDepth 100000 in
set_option maxHeartbeats 4000000 in
theorem eq_X0_add   (a0 : Int32) (s : SS) : ex (tb_X0_add (calE (es_X0_add))) rI [] (fun _ _ _ _ => none) 25 0 [some (.ref 55), some (.int a0)] [] s = f_X0_add a0 s := by
  rfl
set_option maxRecDepth 100000 in
set_option maxHeartbeats 4000000 in
theorem run_X0_add {l : Launch} {G : Gm}   (a0 : Int32) (s : SS) (q : (Int32 × SS)) (h : f_X0_add a0 s = some q) (D' : Nat) (hD : 0 ≤ D') : RunsM l G (D' + 1) (md 2) (embS s) [.ref 55, .int a0] (some (.int q.1)) (embS q.2) := by
  rw [md_X0_add]
  refine runs_I (plainFor_of_name (by decide +kernel)) (Nat.le_of_ble_eq_true rfl) rfl ?_
  intro A p e R s0 m args below meth c Q ad0 hR X hret
  have X : Cx G A RX0 cX0_add 2 p s0 m args c := X
  have hT := tk_X0_add X (calE_ok (es := es_X0_add) (enn)) (rmD rfl hR) hret
  rw [← eq_X0_add   a0 s] at h
  refine ex_good hT (fun pc' ls' st' x' hh => ?_) 25 0 _ [] s h
  cases hh

noncomputable def en_X0_add  : En := fun _ av s k => match av with
  | [.ref r0, .int a0] => (gd (Nat.beq r0 55) (bI (f_X0_add a0 s) k))
  | _ => none
set_option maxRecDepth 100000 in
set_option maxHeartbeats 4000000 in
theorem en_X0_add_ok {l : Launch} {G : Gm} (D : Nat) (hD : 1 ≤ D) : enOK l G D 2 en_X0_add := by
  intro ρ av x k r h
  unfold en_X0_add at h
  split at h
  · obtain ⟨g0, h⟩ := gd_some h
    obtain ⟨q, h1, h2⟩ := bind_of h
    have e0 := beq1 g0
    subst e0
    obtain ⟨D', rfl⟩ : ∃ D', D = D' + 1 := ⟨D - 1, by omega⟩
    exact ⟨_, _, h2, run_X0_add  _ _ _ h1 D' (by omega)⟩
  · cases h

/-! HatRank$Bodies kindOf -/
noncomputable def tb_X0_kindOf (cal : Cal SS) : List (Nat × Ins SS) := [(0, e_aload 0 1), (1, e_iload 1 2), (2, e_callV opsS cal 1 1 0 5), (5, e_ifeq 17 8), (8, e_aload 0 9), (9, e_getR opsS 0 2 12), (12, e_iload 1 13), (13, e_ald opsS 100 14), (14, e_goto 18), (17, e_iconst (-1) 18), (18, e_iret)]
set_option maxRecDepth 100000 in
set_option maxHeartbeats 4000000 in
theorem tk_X0_kindOf {ad0 : Nat → Nat} {G : Gm} {A : Nat → Prop} {p : Program} {l : Launch} {e : Env} {R : Room} {s0 : State} {m : MethodId} {args : Array Value} {below : List Frame} {meth : Method} {c : Code} {Q : State → Prop} {ρ : Type} {ret : Option Value → SS → Option ρ} {r : ρ} (X : Cx G A RX0 cX0_kindOf 2 p s0 m args c) {D' : Nat} {cal : Cal SS} (hcal : calOK l G opsS D' cal) (hRm : ∀ k, k ≤ 21 → D' + 1 ≤ R.frames ∧ 8 + (k + 11) + 40 * D' ≤ R.locals) (hret : RetK G A cX0_kindOf 113 6344 ad0 p l e R s0 m args below meth c Q opsS ret r .ireturn okI) : ∀ q ∈ tb_X0_kindOf cal, OKi G A 2 113 6344 ad0 p l e R s0 m args below meth c Q opsS ret r q.1 q.2 :=
    okc (ok_aload_n (j := 0) X (by decide +kernel) rfl rfl) (
    okc (ok_iload_n (j := 1) X (by decide +kernel) rfl rfl) (
    okc (ok_callV (ci := 0) (C := RX0) (T := TX0) (N := 5) (Y := (yX0_has, cX0_has, 2, (some .boolean))) X hcal opsS_n md_X0_has rfl (by decide) rfl wc_X0_has wl_X0_22 wi_X0 wm_X0_has wv_X0_has (by decide +kernel) (hRm 2 (by decide)) (by decide +kernel) rfl) (
    okc (ok_ifeq (off := 12) X (by decide +kernel) (by decide) rfl) (
    okc (ok_aload_n (j := 0) X (by decide +kernel) rfl rfl) (
    okc (ok_getR (ci := 0) (kf := 2) (idx := 11) (C := RX0) (T := TX0) (N := 5) X rfl (by decide) inX0 (by decide) wf_X0_11 (fun _ _ _ => rfl) (by decide +kernel) rfl) (
    okc (ok_iload_n (j := 1) X (by decide +kernel) rfl rfl) (
    okc (ok_iald X (by decide +kernel) rfl) (
    okc (ok_goto (off := 4) X (by decide +kernel) (by decide)) (
    okc (ok_iconst (n := -1) X (by decide +kernel) rfl rfl) (
    okc (ok_iret hret (by decide +kernel)) (
    okn)))))))))))
noncomputable def es_X0_kindOf  : List (Nat × En) := [(1, en_X0_has)]
set_option maxRecDepth 100000 in
set_option maxHeartbeats 4000000 in
theorem eq_X0_kindOf   (a0 : Int32) (s : SS) : ex (tb_X0_kindOf (calE (es_X0_kindOf))) rI [] (fun _ _ _ _ => none) 13 0 [some (.ref 55), some (.int a0)] [] s = f_X0_kindOf a0 s := by
  rfl
set_option maxRecDepth 100000 in
set_option maxHeartbeats 4000000 in
theorem run_X0_kindOf {l : Launch} {G : Gm}   (a0 : Int32) (s : SS) (q : (Int32 × SS)) (h : f_X0_kindOf a0 s = some q) (D' : Nat) (hD : 1 ≤ D') : RunsM l G (D' + 1) (md 3) (embS s) [.ref 55, .int a0] (some (.int q.1)) (embS q.2) := by
  rw [md_X0_kindOf]
  refine runs_I (plainFor_of_name (by decide +kernel)) (Nat.le_of_ble_eq_true rfl) rfl ?_
  intro A p e R s0 m args below meth c Q ad0 hR X hret
  have X : Cx G A RX0 cX0_kindOf 2 p s0 m args c := X
  have hT := tk_X0_kindOf X (calE_ok (es := es_X0_kindOf) (enc (en_X0_has_ok _ (by omega)) (enn))) (rmD rfl hR) hret
  rw [← eq_X0_kindOf   a0 s] at h
  refine ex_good hT (fun pc' ls' st' x' hh => ?_) 13 0 _ [] s h
  cases hh

noncomputable def en_X0_kindOf  : En := fun _ av s k => match av with
  | [.ref r0, .int a0] => (gd (Nat.beq r0 55) (bI (f_X0_kindOf a0 s) k))
  | _ => none
set_option maxRecDepth 100000 in
set_option maxHeartbeats 4000000 in
theorem en_X0_kindOf_ok {l : Launch} {G : Gm} (D : Nat) (hD : 2 ≤ D) : enOK l G D 3 en_X0_kindOf := by
  intro ρ av x k r h
  unfold en_X0_kindOf at h
  split at h
  · obtain ⟨g0, h⟩ := gd_some h
    obtain ⟨q, h1, h2⟩ := bind_of h
    have e0 := beq1 g0
    subst e0
    obtain ⟨D', rfl⟩ : ∃ D', D = D' + 1 := ⟨D - 1, by omega⟩
    exact ⟨_, _, h2, run_X0_kindOf  _ _ _ h1 D' (by omega)⟩
  · cases h

/-! HatRank$Bodies above -/
noncomputable def tb_X0_above (cal : Cal SS) : List (Nat × Ins SS) := [(0, e_iload 0 1), (1, e_iflt 18 4), (4, e_iload 0 5), (5, e_iconst (8) 7), (7, e_cge 18 10), (10, e_stat 0 13), (13, e_iload 0 14), (14, e_aldX 0 tbA 15), (15, e_goto 19), (18, e_iconst (-1) 19), (19, e_iret)]
set_option maxRecDepth 100000 in
set_option maxHeartbeats 4000000 in
theorem tk_X0_above {ad0 : Nat → Nat} {G : Gm} {A : Nat → Prop} {p : Program} {l : Launch} {e : Env} {R : Room} {s0 : State} {m : MethodId} {args : Array Value} {below : List Frame} {meth : Method} {c : Code} {Q : State → Prop} {ρ : Type} {ret : Option Value → SS → Option ρ} {r : ρ} (X : Cx G A RX0 cX0_above 1 p s0 m args c) {D' : Nat} {cal : Cal SS} (hcal : calOK l G opsS D' cal) (hRm : ∀ k, k ≤ 21 → D' + 1 ≤ R.frames ∧ 8 + (k + 11) + 40 * D' ≤ R.locals) (hret : RetK G A cX0_above 113 6344 ad0 p l e R s0 m args below meth c Q opsS ret r .ireturn okI) : ∀ q ∈ tb_X0_above cal, OKi G A 1 113 6344 ad0 p l e R s0 m args below meth c Q opsS ret r q.1 q.2 :=
    okc (ok_iload_n (j := 0) X (by decide +kernel) rfl rfl) (
    okc (ok_iflt (off := 17) X (by decide +kernel) (by decide) rfl) (
    okc (ok_iload_n (j := 0) X (by decide +kernel) rfl rfl) (
    okc (ok_bipush (n := 8) X (by decide +kernel) rfl rfl) (
    okc (ok_cge (off := 11) X (by decide +kernel) (by decide) rfl) (
    okc (ok_stat0 X wf_X0_40 (by decide +kernel) rfl) (
    okc (ok_iload_n (j := 0) X (by decide +kernel) rfl rfl) (
    okc (ok_aldX0 X (by decide +kernel) rfl) (
    okc (ok_goto (off := 4) X (by decide +kernel) (by decide)) (
    okc (ok_iconst (n := -1) X (by decide +kernel) rfl rfl) (
    okc (ok_iret hret (by decide +kernel)) (
    okn)))))))))))
noncomputable def es_X0_above  : List (Nat × En) := []
set_option maxRecDepth 100000 in
set_option maxHeartbeats 4000000 in
theorem eq_X0_above   (a0 : Int32) (s : SS) : ex (tb_X0_above (calE (es_X0_above))) rI [] (fun _ _ _ _ => none) 13 0 [some (.int a0)] [] s = f_X0_above a0 s := by
  rfl
set_option maxRecDepth 100000 in
set_option maxHeartbeats 4000000 in
theorem run_X0_above {l : Launch} {G : Gm}   (a0 : Int32) (s : SS) (q : (Int32 × SS)) (h : f_X0_above a0 s = some q) (D' : Nat) (hD : 0 ≤ D') : RunsM l G (D' + 1) (md 7) (embS s) [.int a0] (some (.int q.1)) (embS q.2) := by
  rw [md_X0_above]
  refine runs_I (plainFor_of_name (by decide +kernel)) (Nat.le_of_ble_eq_true rfl) rfl ?_
  intro A p e R s0 m args below meth c Q ad0 hR X hret
  have X : Cx G A RX0 cX0_above 1 p s0 m args c := X
  have hT := tk_X0_above X (calE_ok (es := es_X0_above) (enn)) (rmD rfl hR) hret
  rw [← eq_X0_above   a0 s] at h
  refine ex_good hT (fun pc' ls' st' x' hh => ?_) 13 0 _ [] s h
  cases hh

noncomputable def en_X0_above  : En := fun _ av s k => match av with
  | [.int a0] => (bI (f_X0_above a0 s) k)
  | _ => none
set_option maxRecDepth 100000 in
set_option maxHeartbeats 4000000 in
theorem en_X0_above_ok {l : Launch} {G : Gm} (D : Nat) (hD : 1 ≤ D) : enOK l G D 7 en_X0_above := by
  intro ρ av x k r h
  unfold en_X0_above at h
  split at h
  · obtain ⟨q, h1, h2⟩ := bind_of h
    obtain ⟨D', rfl⟩ : ∃ D', D = D' + 1 := ⟨D - 1, by omega⟩
    exact ⟨_, _, h2, run_X0_above  _ _ _ h1 D' (by omega)⟩
  · cases h

/-! HatRank$Bodies isUnder -/
noncomputable def tb_X0_isUnder (cal : Cal SS) : List (Nat × Ins SS) := [(0, e_iload 0 1), (1, e_istore 2 2), (2, e_iconst (0) 3), (3, e_istore 3 4), (4, e_iload 3 5), (5, e_iconst (8) 7), (7, e_cge 31 10), (10, e_iload 2 11), (11, e_iconst (-1) 12), (12, e_ceq 31 15), (15, e_iload 2 16), (16, e_iload 1 17), (17, e_ceq 31 20), (20, e_iload 2 21), (21, e_callS cal 7 1 24), (24, e_istore 2 25), (25, e_iinc 3 (1) 28), (28, e_goto 4), (31, e_iload 2 32), (32, e_iconst (-1) 33), (33, e_ceq 45 36), (36, e_iload 2 37), (37, e_iload 1 38), (38, e_cne 45 41), (41, e_iconst (1) 42), (42, e_goto 46), (45, e_iconst (0) 46), (46, e_zret)]
set_option maxRecDepth 100000 in
set_option maxHeartbeats 4000000 in
theorem tk_X0_isUnder {ad0 : Nat → Nat} {G : Gm} {A : Nat → Prop} {p : Program} {l : Launch} {e : Env} {R : Room} {s0 : State} {m : MethodId} {args : Array Value} {below : List Frame} {meth : Method} {c : Code} {Q : State → Prop} {ρ : Type} {ret : Option Value → SS → Option ρ} {r : ρ} (X : Cx G A RX0 cX0_isUnder 4 p s0 m args c) {D' : Nat} {cal : Cal SS} (hcal : calOK l G opsS D' cal) (hRm : ∀ k, k ≤ 21 → D' + 1 ≤ R.frames ∧ 8 + (k + 11) + 40 * D' ≤ R.locals) (hret : RetK G A cX0_isUnder 113 6344 ad0 p l e R s0 m args below meth c Q opsS ret r .ireturn okZ) : ∀ q ∈ tb_X0_isUnder cal, OKi G A 4 113 6344 ad0 p l e R s0 m args below meth c Q opsS ret r q.1 q.2 :=
    okc (ok_iload_n (j := 0) X (by decide +kernel) rfl rfl) (
    okc (ok_istore_n (j := 2) X (by decide +kernel) rfl rfl) (
    okc (ok_iconst (n := 0) X (by decide +kernel) rfl rfl) (
    okc (ok_istore_n (j := 3) X (by decide +kernel) rfl rfl) (
    okc (ok_iload_n (j := 3) X (by decide +kernel) rfl rfl) (
    okc (ok_bipush (n := 8) X (by decide +kernel) rfl rfl) (
    okc (ok_cge (off := 24) X (by decide +kernel) (by decide) rfl) (
    okc (ok_iload_n (j := 2) X (by decide +kernel) rfl rfl) (
    okc (ok_iconst (n := -1) X (by decide +kernel) rfl rfl) (
    okc (ok_ceq (off := 19) X (by decide +kernel) (by decide) rfl) (
    okc (ok_iload_n (j := 2) X (by decide +kernel) rfl rfl) (
    okc (ok_iload_n (j := 1) X (by decide +kernel) rfl rfl) (
    okc (ok_ceq (off := 14) X (by decide +kernel) (by decide) rfl) (
    okc (ok_iload_n (j := 2) X (by decide +kernel) rfl rfl) (
    okc (ok_callS (Y := (yX0_above, cX0_above, 1, (some .int))) X hcal opsS_n md_X0_above wc_X0_above wl_X0_26 wi_X0 ws_X0_above (by decide +kernel) (hRm 1 (by decide)) (by decide +kernel) rfl) (
    okc (ok_istore_n (j := 2) X (by decide +kernel) rfl rfl) (
    okc (ok_iinc (n := 1) X (by decide +kernel) rfl rfl) (
    okc (ok_goto (off := -24) X (by decide +kernel) (by decide)) (
    okc (ok_iload_n (j := 2) X (by decide +kernel) rfl rfl) (
    okc (ok_iconst (n := -1) X (by decide +kernel) rfl rfl) (
    okc (ok_ceq (off := 12) X (by decide +kernel) (by decide) rfl) (
    okc (ok_iload_n (j := 2) X (by decide +kernel) rfl rfl) (
    okc (ok_iload_n (j := 1) X (by decide +kernel) rfl rfl) (
    okc (ok_cne (off := 7) X (by decide +kernel) (by decide) rfl) (
    okc (ok_iconst (n := 1) X (by decide +kernel) rfl rfl) (
    okc (ok_goto (off := 4) X (by decide +kernel) (by decide)) (
    okc (ok_iconst (n := 0) X (by decide +kernel) rfl rfl) (
    okc (ok_zret hret (by decide +kernel)) (
    okn))))))))))))))))))))))))))))
noncomputable def es_X0_isUnder  : List (Nat × En) := [(7, en_X0_above)]
noncomputable def ka_X0_isUnder_4   (n : Nat) : Kn SS (Int32 × SS) := fun pc ls st s => bif Nat.beq pc 4 then (match ls, st with
    | [_, some (.int x1), some (.int x2), some (.int x3)], [] => (F_X0_isUnder_4 n x1 x2 x3 s)
    | _, _ => none) else (none)
set_option maxRecDepth 100000 in
set_option maxHeartbeats 4000000 in
theorem eq_X0_isUnder_4    (n : Nat) (x1 : Int32) (x2 : Int32) (x3 : Int32) (s : SS) : ex (tb_X0_isUnder (calE (es_X0_isUnder))) rI [4] (ka_X0_isUnder_4   n) 30 4 [none, some (.int x1), some (.int x2), some (.int x3)] [] s = F_X0_isUnder_4   (n + 1) x1 x2 x3 s := by
  rfl
set_option maxRecDepth 100000 in
set_option maxHeartbeats 4000000 in
theorem gd_X0_isUnder_4 {ad0 : Nat → Nat} {G : Gm} {A : Nat → Prop} {p : Program} {l : Launch} {e : Env} {R : Room} {s0 : State} {m : MethodId} {args : Array Value} {below : List Frame} {meth : Method} {c : Code} {Q : State → Prop} {r : (Int32 × SS)}   (hT : ∀ q ∈ tb_X0_isUnder (calE (es_X0_isUnder)), OKi G A 4 113 6344 ad0 p l e R s0 m args below meth c Q opsS rI r q.1 q.2)   : ∀ (n : Nat) (x1 : Int32) (x2 : Int32) (x3 : Int32) (s : SS), F_X0_isUnder_4   n x1 x2 x3 s = some r → Gd G A 4 113 6344 ad0 p l e R s0 m args below meth c Q opsS 4 [none, some (.int x1), some (.int x2), some (.int x3)] [] s := by
  intro n
  induction n with
  | zero =>
    intro x1 x2 x3 s hh
    exact absurd (show (none : Option (Int32 × SS)) = some r from hh) (by simp)
  | succ n ih =>
    intro x1 x2 x3 s hh
    rw [← eq_X0_isUnder_4    n x1 x2 x3 s] at hh
    refine ex_good hT (fun pc' ls' st' x' hh => ?_) 30 4 _ [] s hh
    unfold ka_X0_isUnder_4 at hh
    cases hb : Nat.beq pc' 4 with
    | true =>
      rw [hb] at hh
      have e9 := beq1 hb
      subst e9
      simp only [cond_true] at hh
      split at hh
      · exact Gd.wk (ih _ _ _ _ hh) (Lle.no (Lle.eq (Lle.eq (Lle.eq Lle.nil))))
      · cases hh
    | false =>
      rw [hb] at hh
      simp only [cond_false] at hh
      cases hh

noncomputable def ka_X0_isUnder  : Kn SS (Int32 × SS) := fun pc ls st s => bif Nat.beq pc 4 then (match ls, st with
    | [_, some (.int x1), some (.int x2), some (.int x3)], [] => (F_X0_isUnder_4 fuel0 x1 x2 x3 s)
    | _, _ => none) else (none)
set_option maxRecDepth 100000 in
set_option maxHeartbeats 4000000 in
theorem eq_X0_isUnder   (a0 : Int32) (a1 : Int32) (s : SS) : ex (tb_X0_isUnder (calE (es_X0_isUnder))) rI [4] (ka_X0_isUnder ) 30 0 [some (.int a0), some (.int a1), none, none] [] s = f_X0_isUnder a0 a1 s := by
  rfl
set_option maxRecDepth 100000 in
set_option maxHeartbeats 4000000 in
theorem run_X0_isUnder {l : Launch} {G : Gm}   (a0 : Int32) (a1 : Int32) (s : SS) (q : (Int32 × SS)) (h : f_X0_isUnder a0 a1 s = some q) (D' : Nat) (hD : 1 ≤ D') : RunsM l G (D' + 1) (md 4) (embS s) [.int a0, .int a1] (some (.int q.1)) (embS q.2) := by
  rw [md_X0_isUnder]
  refine runs_Z (plainFor_of_name (by decide +kernel)) (Nat.le_of_ble_eq_true rfl) rfl ?_
  intro A p e R s0 m args below meth c Q ad0 hR X hret
  have X : Cx G A RX0 cX0_isUnder 4 p s0 m args c := X
  have hT := tk_X0_isUnder X (calE_ok (es := es_X0_isUnder) (enc (en_X0_above_ok _ (by omega)) (enn))) (rmD rfl hR) hret
  rw [← eq_X0_isUnder   a0 a1 s] at h
  refine ex_good hT (fun pc' ls' st' x' hh => ?_) 30 0 _ [] s h
  unfold ka_X0_isUnder at hh
  cases hb : Nat.beq pc' 4 with
  | true =>
    rw [hb] at hh
    have e9 := beq1 hb
    subst e9
    simp only [cond_true] at hh
    split at hh
    · exact Gd.wk (gd_X0_isUnder_4 hT  _ _ _ _ _ hh) (Lle.no (Lle.eq (Lle.eq (Lle.eq Lle.nil))))
    · cases hh
  | false =>
    rw [hb] at hh
    simp only [cond_false] at hh
    cases hh

noncomputable def en_X0_isUnder  : En := fun _ av s k => match av with
  | [.int a0, .int a1] => (bI (f_X0_isUnder a0 a1 s) k)
  | _ => none
set_option maxRecDepth 100000 in
set_option maxHeartbeats 4000000 in
theorem en_X0_isUnder_ok {l : Launch} {G : Gm} (D : Nat) (hD : 2 ≤ D) : enOK l G D 4 en_X0_isUnder := by
  intro ρ av x k r h
  unfold en_X0_isUnder at h
  split at h
  · obtain ⟨q, h1, h2⟩ := bind_of h
    obtain ⟨D', rfl⟩ : ∃ D', D = D' + 1 := ⟨D - 1, by omega⟩
    exact ⟨_, _, h2, run_X0_isUnder  _ _ _ _ h1 D' (by omega)⟩
  · cases h

/-! HatRank$Bodies ownBody -/
noncomputable def tb_X0_ownBody (cal : Cal SS) : List (Nat × Ins SS) := [(0, e_iload 0 1), (1, e_iflt 22 4), (4, e_iload 0 5), (5, e_iconst (8) 7), (7, e_cge 22 10), (10, e_stat 1 13), (13, e_iload 0 14), (14, e_iconst (4) 15), (15, e_bin aMul 16), (16, e_iload 1 17), (17, e_bin aAdd 18), (18, e_aldX 1 tbO 19), (19, e_goto 23), (22, e_iconst (0) 23), (23, e_iret)]
set_option maxRecDepth 100000 in
set_option maxHeartbeats 4000000 in
theorem tk_X0_ownBody {ad0 : Nat → Nat} {G : Gm} {A : Nat → Prop} {p : Program} {l : Launch} {e : Env} {R : Room} {s0 : State} {m : MethodId} {args : Array Value} {below : List Frame} {meth : Method} {c : Code} {Q : State → Prop} {ρ : Type} {ret : Option Value → SS → Option ρ} {r : ρ} (X : Cx G A RX0 cX0_ownBody 2 p s0 m args c) {D' : Nat} {cal : Cal SS} (hcal : calOK l G opsS D' cal) (hRm : ∀ k, k ≤ 21 → D' + 1 ≤ R.frames ∧ 8 + (k + 11) + 40 * D' ≤ R.locals) (hret : RetK G A cX0_ownBody 113 6344 ad0 p l e R s0 m args below meth c Q opsS ret r .ireturn okI) : ∀ q ∈ tb_X0_ownBody cal, OKi G A 2 113 6344 ad0 p l e R s0 m args below meth c Q opsS ret r q.1 q.2 :=
    okc (ok_iload_n (j := 0) X (by decide +kernel) rfl rfl) (
    okc (ok_iflt (off := 21) X (by decide +kernel) (by decide) rfl) (
    okc (ok_iload_n (j := 0) X (by decide +kernel) rfl rfl) (
    okc (ok_bipush (n := 8) X (by decide +kernel) rfl rfl) (
    okc (ok_cge (off := 15) X (by decide +kernel) (by decide) rfl) (
    okc (ok_stat1 X wf_X0_43 (by decide +kernel) rfl) (
    okc (ok_iload_n (j := 0) X (by decide +kernel) rfl rfl) (
    okc (ok_iconst (n := 4) X (by decide +kernel) rfl rfl) (
    okc (ok_imul X (by decide +kernel) rfl) (
    okc (ok_iload_n (j := 1) X (by decide +kernel) rfl rfl) (
    okc (ok_iadd X (by decide +kernel) rfl) (
    okc (ok_aldX1 X (by decide +kernel) rfl) (
    okc (ok_goto (off := 4) X (by decide +kernel) (by decide)) (
    okc (ok_iconst (n := 0) X (by decide +kernel) rfl rfl) (
    okc (ok_iret hret (by decide +kernel)) (
    okn)))))))))))))))
noncomputable def es_X0_ownBody  : List (Nat × En) := []
set_option maxRecDepth 100000 in
set_option maxHeartbeats 4000000 in
theorem eq_X0_ownBody   (a0 : Int32) (a1 : Int32) (s : SS) : ex (tb_X0_ownBody (calE (es_X0_ownBody))) rI [] (fun _ _ _ _ => none) 17 0 [some (.int a0), some (.int a1)] [] s = f_X0_ownBody a0 a1 s := by
  rfl
set_option maxRecDepth 100000 in
set_option maxHeartbeats 4000000 in
theorem run_X0_ownBody {l : Launch} {G : Gm}   (a0 : Int32) (a1 : Int32) (s : SS) (q : (Int32 × SS)) (h : f_X0_ownBody a0 a1 s = some q) (D' : Nat) (hD : 0 ≤ D') : RunsM l G (D' + 1) (md 8) (embS s) [.int a0, .int a1] (some (.int q.1)) (embS q.2) := by
  rw [md_X0_ownBody]
  refine runs_I (plainFor_of_name (by decide +kernel)) (Nat.le_of_ble_eq_true rfl) rfl ?_
  intro A p e R s0 m args below meth c Q ad0 hR X hret
  have X : Cx G A RX0 cX0_ownBody 2 p s0 m args c := X
  have hT := tk_X0_ownBody X (calE_ok (es := es_X0_ownBody) (enn)) (rmD rfl hR) hret
  rw [← eq_X0_ownBody   a0 a1 s] at h
  refine ex_good hT (fun pc' ls' st' x' hh => ?_) 17 0 _ [] s h
  cases hh

noncomputable def en_X0_ownBody  : En := fun _ av s k => match av with
  | [.int a0, .int a1] => (bI (f_X0_ownBody a0 a1 s) k)
  | _ => none
set_option maxRecDepth 100000 in
set_option maxHeartbeats 4000000 in
theorem en_X0_ownBody_ok {l : Launch} {G : Gm} (D : Nat) (hD : 1 ≤ D) : enOK l G D 8 en_X0_ownBody := by
  intro ρ av x k r h
  unfold en_X0_ownBody at h
  split at h
  · obtain ⟨q, h1, h2⟩ := bind_of h
    obtain ⟨D', rfl⟩ : ∃ D', D = D' + 1 := ⟨D - 1, by omega⟩
    exact ⟨_, _, h2, run_X0_ownBody  _ _ _ _ h1 D' (by omega)⟩
  · cases h

def rc_X0R (l : Launch) (G : Gm) (D : Nat) (rc : Nat → Int32 → Int32 → Int32 → Int32 → SS → Option (Int32 × SS)) : Prop := (∀ (a0 : Int32) (a1 : Int32) (a2 : Int32) (a3 : Int32) (s : SS) (q : (Int32 × SS)), rc 0 a0 a1 a2 a3 s = some q → RunsM l G D (md 9) (embS s) [.ref 55, .int a0, .int a1, .int a2, .int a3] (some (.int q.1)) (embS q.2)) ∧ (∀ (a0 : Int32) (a1 : Int32) (a2 : Int32) (s : SS) (q : (Int32 × SS)), rc 1 a0 a1 a2 0 s = some q → RunsM l G D (md 10) (embS s) [.ref 55, .int a0, .int a1, .int a2] (some (.int q.1)) (embS q.2)) ∧ (∀ (a0 : Int32) (a1 : Int32) (a2 : Int32) (a3 : Int32) (s : SS) (q : (Int32 × SS)), rc 2 a0 a1 a2 a3 s = some q → RunsM l G D (md 11) (embS s) [.ref 55, .int a0, .int a1, .int a2, .int a3] (some (.int q.1)) (embS q.2))
noncomputable def en_X0_perform (rc : Nat → Int32 → Int32 → Int32 → Int32 → SS → Option (Int32 × SS)) : En := fun _ av s k => match av with
  | [.ref r0, .int a0, .int a1, .int a2, .int a3] => (gd (Nat.beq r0 55) (bI (rc 0 a0 a1 a2 a3 s) k))
  | _ => none
set_option maxRecDepth 100000 in
set_option maxHeartbeats 4000000 in
theorem en_X0_perform_ok {l : Launch} {G : Gm} {D : Nat} {rc : Nat → Int32 → Int32 → Int32 → Int32 → SS → Option (Int32 × SS)} (hrc : rc_X0R l G D rc) : enOK l G D 9 (en_X0_perform rc) := by
  intro ρ av x k r h
  unfold en_X0_perform at h
  split at h
  · obtain ⟨g0, h⟩ := gd_some h
    obtain ⟨q, h1, h2⟩ := bind_of h
    have e0 := beq1 g0
    subst e0
    exact ⟨_, _, h2, hrc.1 _ _ _ _ _ _ h1⟩
  · cases h

noncomputable def en_X0_performOwn (rc : Nat → Int32 → Int32 → Int32 → Int32 → SS → Option (Int32 × SS)) : En := fun _ av s k => match av with
  | [.ref r0, .int a0, .int a1, .int a2] => (gd (Nat.beq r0 55) (bI (rc 1 a0 a1 a2 0 s) k))
  | _ => none
set_option maxRecDepth 100000 in
set_option maxHeartbeats 4000000 in
theorem en_X0_performOwn_ok {l : Launch} {G : Gm} {D : Nat} {rc : Nat → Int32 → Int32 → Int32 → Int32 → SS → Option (Int32 × SS)} (hrc : rc_X0R l G D rc) : enOK l G D 10 (en_X0_performOwn rc) := by
  intro ρ av x k r h
  unfold en_X0_performOwn at h
  split at h
  · obtain ⟨g0, h⟩ := gd_some h
    obtain ⟨q, h1, h2⟩ := bind_of h
    have e0 := beq1 g0
    subst e0
    exact ⟨_, _, h2, hrc.2.1 _ _ _ _ _ h1⟩
  · cases h

noncomputable def en_X0_run (rc : Nat → Int32 → Int32 → Int32 → Int32 → SS → Option (Int32 × SS)) : En := fun _ av s k => match av with
  | [.ref r0, .int a0, .int a1, .int a2, .int a3] => (gd (Nat.beq r0 55) (bI (rc 2 a0 a1 a2 a3 s) k))
  | _ => none
set_option maxRecDepth 100000 in
set_option maxHeartbeats 4000000 in
theorem en_X0_run_ok {l : Launch} {G : Gm} {D : Nat} {rc : Nat → Int32 → Int32 → Int32 → Int32 → SS → Option (Int32 × SS)} (hrc : rc_X0R l G D rc) : enOK l G D 11 (en_X0_run rc) := by
  intro ρ av x k r h
  unfold en_X0_run at h
  split at h
  · obtain ⟨g0, h⟩ := gd_some h
    obtain ⟨q, h1, h2⟩ := bind_of h
    have e0 := beq1 g0
    subst e0
    exact ⟨_, _, h2, hrc.2.2 _ _ _ _ _ _ h1⟩
  · cases h

/-! HatRank$Bodies perform -/
noncomputable def tb_X0_perform (cal : Cal SS) : List (Nat × Ins SS) := [(0, e_iload 1 1), (1, e_istore 5 3), (3, e_iconst (0) 4), (4, e_istore 6 6), (6, e_iload 6 8), (8, e_iconst (8) 10), (10, e_cge 41 13), (13, e_iload 5 15), (15, e_iconst (-1) 16), (16, e_ceq 41 19), (19, e_iload 5 21), (21, e_iload 2 22), (22, e_callS cal 8 2 25), (25, e_ifne 41 28), (28, e_iload 5 30), (30, e_callS cal 7 1 33), (33, e_istore 5 35), (35, e_iinc 6 (1) 38), (38, e_goto 6), (41, e_iload 5 43), (43, e_iconst (-1) 44), (44, e_ceq 54 47), (47, e_iload 4 49), (49, e_iconst (40) 51), (51, e_cle 56 54), (54, e_iconst (0) 55), (55, e_iret), (56, e_iload 5 58), (58, e_iload 2 59), (59, e_callS cal 8 2 62), (62, e_istore 6 64), (64, e_aload 0 65), (65, e_getI opsS 0 1 68), (68, e_iconst (24) 70), (70, e_cge 84 73), (73, e_aload 0 74), (74, e_getR opsS 0 3 77), (77, e_aload 0 78), (78, e_getI opsS 0 1 81), (81, e_iload 6 83), (83, e_ast opsS 100 (fun v => v) 84), (84, e_aload 0 85), (85, e_dup 86), (86, e_getI opsS 0 1 89), (89, e_iconst (1) 90), (90, e_bin aAdd 91), (91, e_putI opsS 0 1 94), (94, e_aload 0 95), (95, e_iload 6 97), (97, e_iload 5 99), (99, e_callS cal 7 1 102), (102, e_iload 3 103), (103, e_iload 4 105), (105, e_iconst (1) 106), (106, e_bin aAdd 107), (107, e_callV opsS cal 11 4 0 110), (110, e_iret)]
set_option maxRecDepth 100000 in
set_option maxHeartbeats 4000000 in
theorem tk_X0_perform {ad0 : Nat → Nat} {G : Gm} {A : Nat → Prop} {p : Program} {l : Launch} {e : Env} {R : Room} {s0 : State} {m : MethodId} {args : Array Value} {below : List Frame} {meth : Method} {c : Code} {Q : State → Prop} {ρ : Type} {ret : Option Value → SS → Option ρ} {r : ρ} (X : Cx G A RX0 cX0_perform 7 p s0 m args c) {D' : Nat} {cal : Cal SS} (hcal : calOK l G opsS D' cal) (hRm : ∀ k, k ≤ 21 → D' + 1 ≤ R.frames ∧ 8 + (k + 11) + 40 * D' ≤ R.locals) (hret : RetK G A cX0_perform 113 6344 ad0 p l e R s0 m args below meth c Q opsS ret r .ireturn okI) : ∀ q ∈ tb_X0_perform cal, OKi G A 7 113 6344 ad0 p l e R s0 m args below meth c Q opsS ret r q.1 q.2 :=
    okc (ok_iload_n (j := 1) X (by decide +kernel) rfl rfl) (
    okc (ok_istore X (by decide +kernel) rfl) (
    okc (ok_iconst (n := 0) X (by decide +kernel) rfl rfl) (
    okc (ok_istore X (by decide +kernel) rfl) (
    okc (ok_iload X (by decide +kernel) rfl) (
    okc (ok_bipush (n := 8) X (by decide +kernel) rfl rfl) (
    okc (ok_cge (off := 31) X (by decide +kernel) (by decide) rfl) (
    okc (ok_iload X (by decide +kernel) rfl) (
    okc (ok_iconst (n := -1) X (by decide +kernel) rfl rfl) (
    okc (ok_ceq (off := 25) X (by decide +kernel) (by decide) rfl) (
    okc (ok_iload X (by decide +kernel) rfl) (
    okc (ok_iload_n (j := 2) X (by decide +kernel) rfl rfl) (
    okc (ok_callS (Y := (yX0_ownBody, cX0_ownBody, 2, (some .int))) X hcal opsS_n md_X0_ownBody wc_X0_ownBody wl_X0_46 wi_X0 ws_X0_ownBody (by decide +kernel) (hRm 2 (by decide)) (by decide +kernel) rfl) (
    okc (ok_ifne (off := 16) X (by decide +kernel) (by decide) rfl) (
    okc (ok_iload X (by decide +kernel) rfl) (
    okc (ok_callS (Y := (yX0_above, cX0_above, 1, (some .int))) X hcal opsS_n md_X0_above wc_X0_above wl_X0_26 wi_X0 ws_X0_above (by decide +kernel) (hRm 1 (by decide)) (by decide +kernel) rfl) (
    okc (ok_istore X (by decide +kernel) rfl) (
    okc (ok_iinc (n := 1) X (by decide +kernel) rfl rfl) (
    okc (ok_goto (off := -32) X (by decide +kernel) (by decide)) (
    okc (ok_iload X (by decide +kernel) rfl) (
    okc (ok_iconst (n := -1) X (by decide +kernel) rfl rfl) (
    okc (ok_ceq (off := 10) X (by decide +kernel) (by decide) rfl) (
    okc (ok_iload X (by decide +kernel) rfl) (
    okc (ok_bipush (n := 40) X (by decide +kernel) rfl rfl) (
    okc (ok_cle (off := 5) X (by decide +kernel) (by decide) rfl) (
    okc (ok_iconst (n := 0) X (by decide +kernel) rfl rfl) (
    okc (ok_iret hret (by decide +kernel)) (
    okc (ok_iload X (by decide +kernel) rfl) (
    okc (ok_iload_n (j := 2) X (by decide +kernel) rfl rfl) (
    okc (ok_callS (Y := (yX0_ownBody, cX0_ownBody, 2, (some .int))) X hcal opsS_n md_X0_ownBody wc_X0_ownBody wl_X0_46 wi_X0 ws_X0_ownBody (by decide +kernel) (hRm 2 (by decide)) (by decide +kernel) rfl) (
    okc (ok_istore X (by decide +kernel) rfl) (
    okc (ok_aload_n (j := 0) X (by decide +kernel) rfl rfl) (
    okc (ok_getI (ci := 0) (kf := 1) (idx := 30) (C := RX0) (T := TX0) (N := 5) X rfl (by decide) inX0 (by decide) wf_X0_30 (fun _ _ _ => rfl) (by decide +kernel) rfl) (
    okc (ok_bipush (n := 24) X (by decide +kernel) rfl rfl) (
    okc (ok_cge (off := 14) X (by decide +kernel) (by decide) rfl) (
    okc (ok_aload_n (j := 0) X (by decide +kernel) rfl rfl) (
    okc (ok_getR (ci := 0) (kf := 3) (idx := 15) (C := RX0) (T := TX0) (N := 5) X rfl (by decide) inX0 (by decide) wf_X0_15 (fun _ _ _ => rfl) (by decide +kernel) rfl) (
    okc (ok_aload_n (j := 0) X (by decide +kernel) rfl rfl) (
    okc (ok_getI (ci := 0) (kf := 1) (idx := 30) (C := RX0) (T := TX0) (N := 5) X rfl (by decide) inX0 (by decide) wf_X0_30 (fun _ _ _ => rfl) (by decide +kernel) rfl) (
    okc (ok_iload X (by decide +kernel) rfl) (
    okc (ok_iast X opsS_ok (by decide +kernel) rfl) (
    okc (ok_aload_n (j := 0) X (by decide +kernel) rfl rfl) (
    okc (ok_dup X (by decide +kernel) rfl) (
    okc (ok_getI (ci := 0) (kf := 1) (idx := 30) (C := RX0) (T := TX0) (N := 5) X rfl (by decide) inX0 (by decide) wf_X0_30 (fun _ _ _ => rfl) (by decide +kernel) rfl) (
    okc (ok_iconst (n := 1) X (by decide +kernel) rfl rfl) (
    okc (ok_iadd X (by decide +kernel) rfl) (
    okc (ok_putI (ci := 0) (kf := 1) (idx := 30) (C := RX0) (T := TX0) (N := 5) X opsS_ok rfl (by decide) inX0 tyX0_ok nmX0 (by decide) wf_X0_30 rfl (fun _ _ _ => rfl) (by decide +kernel) (by decide +kernel) rfl) (
    okc (ok_aload_n (j := 0) X (by decide +kernel) rfl rfl) (
    okc (ok_iload X (by decide +kernel) rfl) (
    okc (ok_iload X (by decide +kernel) rfl) (
    okc (ok_callS (Y := (yX0_above, cX0_above, 1, (some .int))) X hcal opsS_n md_X0_above wc_X0_above wl_X0_26 wi_X0 ws_X0_above (by decide +kernel) (hRm 1 (by decide)) (by decide +kernel) rfl) (
    okc (ok_iload_n (j := 3) X (by decide +kernel) rfl rfl) (
    okc (ok_iload X (by decide +kernel) rfl) (
    okc (ok_iconst (n := 1) X (by decide +kernel) rfl rfl) (
    okc (ok_iadd X (by decide +kernel) rfl) (
    okc (ok_callV (ci := 0) (C := RX0) (T := TX0) (N := 5) (Y := (yX0_run, cX0_run, 5, (some .int))) X hcal opsS_n md_X0_run rfl (by decide) rfl wc_X0_run wl_X0_50 wi_X0 wm_X0_run wv_X0_run (by decide +kernel) (hRm 5 (by decide)) (by decide +kernel) rfl) (
    okc (ok_iret hret (by decide +kernel)) (
    okn)))))))))))))))))))))))))))))))))))))))))))))))))))))))))
noncomputable def es_X0_perform (rc : Nat → Int32 → Int32 → Int32 → Int32 → SS → Option (Int32 × SS)) : List (Nat × En) := [(8, en_X0_ownBody), (7, en_X0_above), (11, en_X0_run rc)]
noncomputable def ka_X0_perform_6 (rc : Nat → Int32 → Int32 → Int32 → Int32 → SS → Option (Int32 × SS))  (n : Nat) : Kn SS (Int32 × SS) := fun pc ls st s => bif Nat.beq pc 6 then (match ls, st with
    | [some y0, _, some (.int x2), some (.int x3), some (.int x4), some (.int x5), some (.int x6)], [] => (gd (veq y0 (.ref 55)) (F_X0_perform_6 rc n x2 x3 x4 x5 x6 s))
    | _, _ => none) else (none)
set_option maxRecDepth 100000 in
set_option maxHeartbeats 4000000 in
theorem eq_X0_perform_6 (rc : Nat → Int32 → Int32 → Int32 → Int32 → SS → Option (Int32 × SS))   (n : Nat) (x2 : Int32) (x3 : Int32) (x4 : Int32) (x5 : Int32) (x6 : Int32) (s : SS) : ex (tb_X0_perform (calE (es_X0_perform rc))) rI [6] (ka_X0_perform_6 rc  n) 59 6 [some (.ref 55), none, some (.int x2), some (.int x3), some (.int x4), some (.int x5), some (.int x6)] [] s = F_X0_perform_6 rc  (n + 1) x2 x3 x4 x5 x6 s := by
  rfl
set_option maxRecDepth 100000 in
set_option maxHeartbeats 4000000 in
theorem gd_X0_perform_6 {ad0 : Nat → Nat} {G : Gm} {A : Nat → Prop} {p : Program} {l : Launch} {e : Env} {R : Room} {s0 : State} {m : MethodId} {args : Array Value} {below : List Frame} {meth : Method} {c : Code} {Q : State → Prop} {r : (Int32 × SS)} {rc : Nat → Int32 → Int32 → Int32 → Int32 → SS → Option (Int32 × SS)}  (hT : ∀ q ∈ tb_X0_perform (calE (es_X0_perform rc)), OKi G A 7 113 6344 ad0 p l e R s0 m args below meth c Q opsS rI r q.1 q.2)   : ∀ (n : Nat) (x2 : Int32) (x3 : Int32) (x4 : Int32) (x5 : Int32) (x6 : Int32) (s : SS), F_X0_perform_6 rc  n x2 x3 x4 x5 x6 s = some r → Gd G A 7 113 6344 ad0 p l e R s0 m args below meth c Q opsS 6 [some (.ref 55), none, some (.int x2), some (.int x3), some (.int x4), some (.int x5), some (.int x6)] [] s := by
  intro n
  induction n with
  | zero =>
    intro x2 x3 x4 x5 x6 s hh
    exact absurd (show (none : Option (Int32 × SS)) = some r from hh) (by simp)
  | succ n ih =>
    intro x2 x3 x4 x5 x6 s hh
    rw [← eq_X0_perform_6 rc   n x2 x3 x4 x5 x6 s] at hh
    refine ex_good hT (fun pc' ls' st' x' hh => ?_) 59 6 _ [] s hh
    unfold ka_X0_perform_6 at hh
    cases hb : Nat.beq pc' 6 with
    | true =>
      rw [hb] at hh
      have e9 := beq1 hb
      subst e9
      simp only [cond_true] at hh
      split at hh
      · obtain ⟨g0, hh1⟩ := gd_some hh
        have e0 := veq_of g0
        subst e0
        exact Gd.wk (ih _ _ _ _ _ _ hh1) (Lle.eq (Lle.no (Lle.eq (Lle.eq (Lle.eq (Lle.eq (Lle.eq Lle.nil)))))))
      · cases hh
    | false =>
      rw [hb] at hh
      simp only [cond_false] at hh
      cases hh

noncomputable def ka_X0_perform (rc : Nat → Int32 → Int32 → Int32 → Int32 → SS → Option (Int32 × SS)) : Kn SS (Int32 × SS) := fun pc ls st s => bif Nat.beq pc 6 then (match ls, st with
    | [some y0, _, some (.int x2), some (.int x3), some (.int x4), some (.int x5), some (.int x6)], [] => (gd (veq y0 (.ref 55)) (F_X0_perform_6 rc fuel0 x2 x3 x4 x5 x6 s))
    | _, _ => none) else (none)
set_option maxRecDepth 100000 in
set_option maxHeartbeats 4000000 in
theorem eq_X0_perform (rc : Nat → Int32 → Int32 → Int32 → Int32 → SS → Option (Int32 × SS))  (a0 : Int32) (a1 : Int32) (a2 : Int32) (a3 : Int32) (s : SS) : ex (tb_X0_perform (calE (es_X0_perform rc))) rI [6] (ka_X0_perform rc) 59 0 [some (.ref 55), some (.int a0), some (.int a1), some (.int a2), some (.int a3), none, none] [] s = f_X0_perform rc a0 a1 a2 a3 s := by
  rfl
set_option maxRecDepth 100000 in
set_option maxHeartbeats 4000000 in
theorem run_X0_perform {l : Launch} {G : Gm} {rc : Nat → Int32 → Int32 → Int32 → Int32 → SS → Option (Int32 × SS)}  (a0 : Int32) (a1 : Int32) (a2 : Int32) (a3 : Int32) (s : SS) (q : (Int32 × SS)) (h : f_X0_perform rc a0 a1 a2 a3 s = some q) (D' : Nat) (hD : 1 ≤ D') (hrc : rc_X0R l G D' rc) : RunsM l G (D' + 1) (md 9) (embS s) [.ref 55, .int a0, .int a1, .int a2, .int a3] (some (.int q.1)) (embS q.2) := by
  rw [md_X0_perform]
  refine runs_I (plainFor_of_name (by decide +kernel)) (Nat.le_of_ble_eq_true rfl) rfl ?_
  intro A p e R s0 m args below meth c Q ad0 hR X hret
  have X : Cx G A RX0 cX0_perform 7 p s0 m args c := X
  have hT := tk_X0_perform X (calE_ok (es := es_X0_perform rc) (enc (en_X0_ownBody_ok _ (by omega)) (enc (en_X0_above_ok _ (by omega)) (enc (en_X0_run_ok hrc) (enn))))) (rmD rfl hR) hret
  rw [← eq_X0_perform rc  a0 a1 a2 a3 s] at h
  refine ex_good hT (fun pc' ls' st' x' hh => ?_) 59 0 _ [] s h
  unfold ka_X0_perform at hh
  cases hb : Nat.beq pc' 6 with
  | true =>
    rw [hb] at hh
    have e9 := beq1 hb
    subst e9
    simp only [cond_true] at hh
    split at hh
    · obtain ⟨g0, hh1⟩ := gd_some hh
      have e0 := veq_of g0
      subst e0
      exact Gd.wk (gd_X0_perform_6 hT  _ _ _ _ _ _ _ hh1) (Lle.eq (Lle.no (Lle.eq (Lle.eq (Lle.eq (Lle.eq (Lle.eq Lle.nil)))))))
    · cases hh
  | false =>
    rw [hb] at hh
    simp only [cond_false] at hh
    cases hh


/-! HatRank$Bodies performOwn -/
noncomputable def tb_X0_performOwn (cal : Cal SS) : List (Nat × Ins SS) := [(0, e_aload 0 1), (1, e_aload 0 2), (2, e_aload 0 3), (3, e_getI opsS 0 4 6), (6, e_callV opsS cal 3 1 0 9), (9, e_iload 1 10), (10, e_iload 2 11), (11, e_iload 3 12), (12, e_callV opsS cal 9 4 0 15), (15, e_iret)]
set_option maxRecDepth 100000 in
set_option maxHeartbeats 4000000 in
theorem tk_X0_performOwn {ad0 : Nat → Nat} {G : Gm} {A : Nat → Prop} {p : Program} {l : Launch} {e : Env} {R : Room} {s0 : State} {m : MethodId} {args : Array Value} {below : List Frame} {meth : Method} {c : Code} {Q : State → Prop} {ρ : Type} {ret : Option Value → SS → Option ρ} {r : ρ} (X : Cx G A RX0 cX0_performOwn 4 p s0 m args c) {D' : Nat} {cal : Cal SS} (hcal : calOK l G opsS D' cal) (hRm : ∀ k, k ≤ 21 → D' + 1 ≤ R.frames ∧ 8 + (k + 11) + 40 * D' ≤ R.locals) (hret : RetK G A cX0_performOwn 113 6344 ad0 p l e R s0 m args below meth c Q opsS ret r .ireturn okI) : ∀ q ∈ tb_X0_performOwn cal, OKi G A 4 113 6344 ad0 p l e R s0 m args below meth c Q opsS ret r q.1 q.2 :=
    okc (ok_aload_n (j := 0) X (by decide +kernel) rfl rfl) (
    okc (ok_aload_n (j := 0) X (by decide +kernel) rfl rfl) (
    okc (ok_aload_n (j := 0) X (by decide +kernel) rfl rfl) (
    okc (ok_getI (ci := 0) (kf := 4) (idx := 33) (C := RX0) (T := TX0) (N := 5) X rfl (by decide) inX0 (by decide) wf_X0_33 (fun _ _ _ => rfl) (by decide +kernel) rfl) (
    okc (ok_callV (ci := 0) (C := RX0) (T := TX0) (N := 5) (Y := (yX0_kindOf, cX0_kindOf, 2, (some .int))) X hcal opsS_n md_X0_kindOf rfl (by decide) rfl wc_X0_kindOf wl_X0_53 wi_X0 wm_X0_kindOf wv_X0_kindOf (by decide +kernel) (hRm 2 (by decide)) (by decide +kernel) rfl) (
    okc (ok_iload_n (j := 1) X (by decide +kernel) rfl rfl) (
    okc (ok_iload_n (j := 2) X (by decide +kernel) rfl rfl) (
    okc (ok_iload_n (j := 3) X (by decide +kernel) rfl rfl) (
    okc (ok_callV (ci := 0) (C := RX0) (T := TX0) (N := 5) (Y := (yX0_perform, cX0_perform, 7, (some .int))) X hcal opsS_n md_X0_perform rfl (by decide) rfl wc_X0_perform wl_X0_36 wi_X0 wm_X0_perform wv_X0_perform (by decide +kernel) (hRm 7 (by decide)) (by decide +kernel) rfl) (
    okc (ok_iret hret (by decide +kernel)) (
    okn))))))))))
noncomputable def es_X0_performOwn (rc : Nat → Int32 → Int32 → Int32 → Int32 → SS → Option (Int32 × SS)) : List (Nat × En) := [(3, en_X0_kindOf), (9, en_X0_perform rc)]
set_option maxRecDepth 100000 in
set_option maxHeartbeats 4000000 in
theorem eq_X0_performOwn (rc : Nat → Int32 → Int32 → Int32 → Int32 → SS → Option (Int32 × SS))  (a0 : Int32) (a1 : Int32) (a2 : Int32) (s : SS) : ex (tb_X0_performOwn (calE (es_X0_performOwn rc))) rI [] (fun _ _ _ _ => none) 12 0 [some (.ref 55), some (.int a0), some (.int a1), some (.int a2)] [] s = f_X0_performOwn rc a0 a1 a2 s := by
  rfl
set_option maxRecDepth 100000 in
set_option maxHeartbeats 4000000 in
theorem run_X0_performOwn {l : Launch} {G : Gm} {rc : Nat → Int32 → Int32 → Int32 → Int32 → SS → Option (Int32 × SS)}  (a0 : Int32) (a1 : Int32) (a2 : Int32) (s : SS) (q : (Int32 × SS)) (h : f_X0_performOwn rc a0 a1 a2 s = some q) (D' : Nat) (hD : 2 ≤ D') (hrc : rc_X0R l G D' rc) : RunsM l G (D' + 1) (md 10) (embS s) [.ref 55, .int a0, .int a1, .int a2] (some (.int q.1)) (embS q.2) := by
  rw [md_X0_performOwn]
  refine runs_I (plainFor_of_name (by decide +kernel)) (Nat.le_of_ble_eq_true rfl) rfl ?_
  intro A p e R s0 m args below meth c Q ad0 hR X hret
  have X : Cx G A RX0 cX0_performOwn 4 p s0 m args c := X
  have hT := tk_X0_performOwn X (calE_ok (es := es_X0_performOwn rc) (enc (en_X0_kindOf_ok _ (by omega)) (enc (en_X0_perform_ok hrc) (enn)))) (rmD rfl hR) hret
  rw [← eq_X0_performOwn rc  a0 a1 a2 s] at h
  refine ex_good hT (fun pc' ls' st' x' hh => ?_) 12 0 _ [] s h
  cases hh


/-! HatRank$Bodies run -/
noncomputable def tb_X0_run (cal : Cal SS) : List (Nat × Ins SS) := [(0, e_iload 1 1), (1, e_sw [(1, 124), (2, 131), (10, 149), (11, 160), (20, 167), (30, 179), (40, 190), (41, 202), (50, 214), (60, 226), (61, 245), (70, 257), (80, 269), (81, 288)] 300), (124, e_iload 3 125), (125, e_aload 0 126), (126, e_getI opsS 0 4 129), (129, e_bin aAdd 130), (130, e_iret), (131, e_aload 0 132), (132, e_iconst (1) 133), (133, e_iload 3 134), (134, e_iload 4 136), (136, e_callV opsS cal 10 3 0 139), (139, e_aload 0 140), (140, e_iconst (2) 141), (141, e_iconst (1) 142), (142, e_iload 4 144), (144, e_callV opsS cal 10 3 0 147), (147, e_bin aSub 148), (148, e_iret), (149, e_aload 0 150), (150, e_iconst (0) 151), (151, e_iload 3 152), (152, e_iload 4 154), (154, e_callV opsS cal 10 3 0 157), (157, e_iconst (2) 158), (158, e_bin aMul 159), (159, e_iret), (160, e_iload 3 161), (161, e_aload 0 162), (162, e_getI opsS 0 4 165), (165, e_bin aXor 166), (166, e_iret), (167, e_aload 0 168), (168, e_iload 2 169), (169, e_iconst (0) 170), (170, e_iload 3 171), (171, e_iload 4 173), (173, e_callV opsS cal 9 4 0 176), (176, e_iconst (3) 177), (177, e_bin aAdd 178), (178, e_iret), (179, e_aload 0 180), (180, e_iload 2 181), (181, e_iconst (1) 182), (182, e_iload 3 183), (183, e_iload 4 185), (185, e_callV opsS cal 9 4 0 188), (188, e_un aNeg 189), (189, e_iret), (190, e_aload 0 191), (191, e_iload 2 192), (192, e_iconst (2) 193), (193, e_iload 3 194), (194, e_iload 4 196), (196, e_callV opsS cal 9 4 0 199), (199, e_iconst (3) 200), (200, e_bin aMul 201), (201, e_iret), (202, e_aload 0 203), (203, e_iload 2 204), (204, e_iconst (1) 205), (205, e_iload 3 206), (206, e_iconst (1) 207), (207, e_bin aAdd 208), (208, e_iload 4 210), (210, e_callV opsS cal 9 4 0 213), (213, e_iret), (214, e_aload 0 215), (215, e_iload 2 216), (216, e_iconst (3) 217), (217, e_iload 3 218), (218, e_iload 4 220), (220, e_callV opsS cal 9 4 0 223), (223, e_iconst (5) 224), (224, e_bin aXor 225), (225, e_iret), (226, e_aload 0 227), (227, e_iload 2 228), (228, e_iconst (2) 229), (229, e_iload 3 230), (230, e_iload 4 232), (232, e_callV opsS cal 9 4 0 235), (235, e_aload 0 236), (236, e_iconst (0) 237), (237, e_iconst (2) 238), (238, e_iload 4 240), (240, e_callV opsS cal 10 3 0 243), (243, e_bin aSub 244), (244, e_iret), (245, e_aload 0 246), (246, e_iload 2 247), (247, e_iconst (3) 248), (248, e_iload 3 249), (249, e_iload 4 251), (251, e_callV opsS cal 9 4 0 254), (254, e_iconst (1) 255), (255, e_bin aAdd 256), (256, e_iret), (257, e_aload 0 258), (258, e_iload 2 259), (259, e_iconst (0) 260), (260, e_iload 3 261), (261, e_iload 4 263), (263, e_callV opsS cal 9 4 0 266), (266, e_iconst (2) 267), (267, e_bin aMul 268), (268, e_iret), (269, e_aload 0 270), (270, e_iload 2 271), (271, e_iconst (1) 272), (272, e_iload 3 273), (273, e_iload 4 275), (275, e_callV opsS cal 9 4 0 278), (278, e_aload 0 279), (279, e_iconst (2) 280), (280, e_iconst (2) 281), (281, e_iload 4 283), (283, e_callV opsS cal 10 3 0 286), (286, e_bin aAdd 287), (287, e_iret), (288, e_aload 0 289), (289, e_iload 2 290), (290, e_iconst (0) 291), (291, e_iload 3 292), (292, e_iload 4 294), (294, e_callV opsS cal 9 4 0 297), (297, e_iconst (1) 298), (298, e_bin aSub 299), (299, e_iret), (300, e_iconst (0) 301), (301, e_iret)]
set_option maxRecDepth 100000 in
set_option maxHeartbeats 4000000 in
theorem tk_X0_run {ad0 : Nat → Nat} {G : Gm} {A : Nat → Prop} {p : Program} {l : Launch} {e : Env} {R : Room} {s0 : State} {m : MethodId} {args : Array Value} {below : List Frame} {meth : Method} {c : Code} {Q : State → Prop} {ρ : Type} {ret : Option Value → SS → Option ρ} {r : ρ} (X : Cx G A RX0 cX0_run 5 p s0 m args c) {D' : Nat} {cal : Cal SS} (hcal : calOK l G opsS D' cal) (hRm : ∀ k, k ≤ 21 → D' + 1 ≤ R.frames ∧ 8 + (k + 11) + 40 * D' ≤ R.locals) (hret : RetK G A cX0_run 113 6344 ad0 p l e R s0 m args below meth c Q opsS ret r .ireturn okI) : ∀ q ∈ tb_X0_run cal, OKi G A 5 113 6344 ad0 p l e R s0 m args below meth c Q opsS ret r q.1 q.2 :=
    okc (ok_iload_n (j := 1) X (by decide +kernel) rfl rfl) (
    okc (ok_lsw (dflt := 299) (ps := #[(1, 123), (2, 130), (10, 148), (11, 159), (20, 166), (30, 178), (40, 189), (41, 201), (50, 213), (60, 225), (61, 244), (70, 256), (80, 268), (81, 287)]) (len := 123) X (by decide +kernel) (by decide +kernel) (lsw_ok 1 299 _ (by decide +kernel))) (
    okc (ok_iload_n (j := 3) X (by decide +kernel) rfl rfl) (
    okc (ok_aload_n (j := 0) X (by decide +kernel) rfl rfl) (
    okc (ok_getI (ci := 0) (kf := 4) (idx := 33) (C := RX0) (T := TX0) (N := 5) X rfl (by decide) inX0 (by decide) wf_X0_33 (fun _ _ _ => rfl) (by decide +kernel) rfl) (
    okc (ok_iadd X (by decide +kernel) rfl) (
    okc (ok_iret hret (by decide +kernel)) (
    okc (ok_aload_n (j := 0) X (by decide +kernel) rfl rfl) (
    okc (ok_iconst (n := 1) X (by decide +kernel) rfl rfl) (
    okc (ok_iload_n (j := 3) X (by decide +kernel) rfl rfl) (
    okc (ok_iload X (by decide +kernel) rfl) (
    okc (ok_callV (ci := 0) (C := RX0) (T := TX0) (N := 5) (Y := (yX0_performOwn, cX0_performOwn, 4, (some .int))) X hcal opsS_n md_X0_performOwn rfl (by decide) rfl wc_X0_performOwn wl_X0_56 wi_X0 wm_X0_performOwn wv_X0_performOwn (by decide +kernel) (hRm 4 (by decide)) (by decide +kernel) rfl) (
    okc (ok_aload_n (j := 0) X (by decide +kernel) rfl rfl) (
    okc (ok_iconst (n := 2) X (by decide +kernel) rfl rfl) (
    okc (ok_iconst (n := 1) X (by decide +kernel) rfl rfl) (
    okc (ok_iload X (by decide +kernel) rfl) (
    okc (ok_callV (ci := 0) (C := RX0) (T := TX0) (N := 5) (Y := (yX0_performOwn, cX0_performOwn, 4, (some .int))) X hcal opsS_n md_X0_performOwn rfl (by decide) rfl wc_X0_performOwn wl_X0_56 wi_X0 wm_X0_performOwn wv_X0_performOwn (by decide +kernel) (hRm 4 (by decide)) (by decide +kernel) rfl) (
    okc (ok_isub X (by decide +kernel) rfl) (
    okc (ok_iret hret (by decide +kernel)) (
    okc (ok_aload_n (j := 0) X (by decide +kernel) rfl rfl) (
    okc (ok_iconst (n := 0) X (by decide +kernel) rfl rfl) (
    okc (ok_iload_n (j := 3) X (by decide +kernel) rfl rfl) (
    okc (ok_iload X (by decide +kernel) rfl) (
    okc (ok_callV (ci := 0) (C := RX0) (T := TX0) (N := 5) (Y := (yX0_performOwn, cX0_performOwn, 4, (some .int))) X hcal opsS_n md_X0_performOwn rfl (by decide) rfl wc_X0_performOwn wl_X0_56 wi_X0 wm_X0_performOwn wv_X0_performOwn (by decide +kernel) (hRm 4 (by decide)) (by decide +kernel) rfl) (
    okc (ok_iconst (n := 2) X (by decide +kernel) rfl rfl) (
    okc (ok_imul X (by decide +kernel) rfl) (
    okc (ok_iret hret (by decide +kernel)) (
    okc (ok_iload_n (j := 3) X (by decide +kernel) rfl rfl) (
    okc (ok_aload_n (j := 0) X (by decide +kernel) rfl rfl) (
    okc (ok_getI (ci := 0) (kf := 4) (idx := 33) (C := RX0) (T := TX0) (N := 5) X rfl (by decide) inX0 (by decide) wf_X0_33 (fun _ _ _ => rfl) (by decide +kernel) rfl) (
    okc (ok_ixor X (by decide +kernel) rfl) (
    okc (ok_iret hret (by decide +kernel)) (
    okc (ok_aload_n (j := 0) X (by decide +kernel) rfl rfl) (
    okc (ok_iload_n (j := 2) X (by decide +kernel) rfl rfl) (
    okc (ok_iconst (n := 0) X (by decide +kernel) rfl rfl) (
    okc (ok_iload_n (j := 3) X (by decide +kernel) rfl rfl) (
    okc (ok_iload X (by decide +kernel) rfl) (
    okc (ok_callV (ci := 0) (C := RX0) (T := TX0) (N := 5) (Y := (yX0_perform, cX0_perform, 7, (some .int))) X hcal opsS_n md_X0_perform rfl (by decide) rfl wc_X0_perform wl_X0_36 wi_X0 wm_X0_perform wv_X0_perform (by decide +kernel) (hRm 7 (by decide)) (by decide +kernel) rfl) (
    okc (ok_iconst (n := 3) X (by decide +kernel) rfl rfl) (
    okc (ok_iadd X (by decide +kernel) rfl) (
    okc (ok_iret hret (by decide +kernel)) (
    okc (ok_aload_n (j := 0) X (by decide +kernel) rfl rfl) (
    okc (ok_iload_n (j := 2) X (by decide +kernel) rfl rfl) (
    okc (ok_iconst (n := 1) X (by decide +kernel) rfl rfl) (
    okc (ok_iload_n (j := 3) X (by decide +kernel) rfl rfl) (
    okc (ok_iload X (by decide +kernel) rfl) (
    okc (ok_callV (ci := 0) (C := RX0) (T := TX0) (N := 5) (Y := (yX0_perform, cX0_perform, 7, (some .int))) X hcal opsS_n md_X0_perform rfl (by decide) rfl wc_X0_perform wl_X0_36 wi_X0 wm_X0_perform wv_X0_perform (by decide +kernel) (hRm 7 (by decide)) (by decide +kernel) rfl) (
    okc (ok_ineg X (by decide +kernel) rfl) (
    okc (ok_iret hret (by decide +kernel)) (
    okc (ok_aload_n (j := 0) X (by decide +kernel) rfl rfl) (
    okc (ok_iload_n (j := 2) X (by decide +kernel) rfl rfl) (
    okc (ok_iconst (n := 2) X (by decide +kernel) rfl rfl) (
    okc (ok_iload_n (j := 3) X (by decide +kernel) rfl rfl) (
    okc (ok_iload X (by decide +kernel) rfl) (
    okc (ok_callV (ci := 0) (C := RX0) (T := TX0) (N := 5) (Y := (yX0_perform, cX0_perform, 7, (some .int))) X hcal opsS_n md_X0_perform rfl (by decide) rfl wc_X0_perform wl_X0_36 wi_X0 wm_X0_perform wv_X0_perform (by decide +kernel) (hRm 7 (by decide)) (by decide +kernel) rfl) (
    okc (ok_iconst (n := 3) X (by decide +kernel) rfl rfl) (
    okc (ok_imul X (by decide +kernel) rfl) (
    okc (ok_iret hret (by decide +kernel)) (
    okc (ok_aload_n (j := 0) X (by decide +kernel) rfl rfl) (
    okc (ok_iload_n (j := 2) X (by decide +kernel) rfl rfl) (
    okc (ok_iconst (n := 1) X (by decide +kernel) rfl rfl) (
    okc (ok_iload_n (j := 3) X (by decide +kernel) rfl rfl) (
    okc (ok_iconst (n := 1) X (by decide +kernel) rfl rfl) (
    okc (ok_iadd X (by decide +kernel) rfl) (
    okc (ok_iload X (by decide +kernel) rfl) (
    okc (ok_callV (ci := 0) (C := RX0) (T := TX0) (N := 5) (Y := (yX0_perform, cX0_perform, 7, (some .int))) X hcal opsS_n md_X0_perform rfl (by decide) rfl wc_X0_perform wl_X0_36 wi_X0 wm_X0_perform wv_X0_perform (by decide +kernel) (hRm 7 (by decide)) (by decide +kernel) rfl) (
    okc (ok_iret hret (by decide +kernel)) (
    okc (ok_aload_n (j := 0) X (by decide +kernel) rfl rfl) (
    okc (ok_iload_n (j := 2) X (by decide +kernel) rfl rfl) (
    okc (ok_iconst (n := 3) X (by decide +kernel) rfl rfl) (
    okc (ok_iload_n (j := 3) X (by decide +kernel) rfl rfl) (
    okc (ok_iload X (by decide +kernel) rfl) (
    okc (ok_callV (ci := 0) (C := RX0) (T := TX0) (N := 5) (Y := (yX0_perform, cX0_perform, 7, (some .int))) X hcal opsS_n md_X0_perform rfl (by decide) rfl wc_X0_perform wl_X0_36 wi_X0 wm_X0_perform wv_X0_perform (by decide +kernel) (hRm 7 (by decide)) (by decide +kernel) rfl) (
    okc (ok_iconst (n := 5) X (by decide +kernel) rfl rfl) (
    okc (ok_ixor X (by decide +kernel) rfl) (
    okc (ok_iret hret (by decide +kernel)) (
    okc (ok_aload_n (j := 0) X (by decide +kernel) rfl rfl) (
    okc (ok_iload_n (j := 2) X (by decide +kernel) rfl rfl) (
    okc (ok_iconst (n := 2) X (by decide +kernel) rfl rfl) (
    okc (ok_iload_n (j := 3) X (by decide +kernel) rfl rfl) (
    okc (ok_iload X (by decide +kernel) rfl) (
    okc (ok_callV (ci := 0) (C := RX0) (T := TX0) (N := 5) (Y := (yX0_perform, cX0_perform, 7, (some .int))) X hcal opsS_n md_X0_perform rfl (by decide) rfl wc_X0_perform wl_X0_36 wi_X0 wm_X0_perform wv_X0_perform (by decide +kernel) (hRm 7 (by decide)) (by decide +kernel) rfl) (
    okc (ok_aload_n (j := 0) X (by decide +kernel) rfl rfl) (
    okc (ok_iconst (n := 0) X (by decide +kernel) rfl rfl) (
    okc (ok_iconst (n := 2) X (by decide +kernel) rfl rfl) (
    okc (ok_iload X (by decide +kernel) rfl) (
    okc (ok_callV (ci := 0) (C := RX0) (T := TX0) (N := 5) (Y := (yX0_performOwn, cX0_performOwn, 4, (some .int))) X hcal opsS_n md_X0_performOwn rfl (by decide) rfl wc_X0_performOwn wl_X0_56 wi_X0 wm_X0_performOwn wv_X0_performOwn (by decide +kernel) (hRm 4 (by decide)) (by decide +kernel) rfl) (
    okc (ok_isub X (by decide +kernel) rfl) (
    okc (ok_iret hret (by decide +kernel)) (
    okc (ok_aload_n (j := 0) X (by decide +kernel) rfl rfl) (
    okc (ok_iload_n (j := 2) X (by decide +kernel) rfl rfl) (
    okc (ok_iconst (n := 3) X (by decide +kernel) rfl rfl) (
    okc (ok_iload_n (j := 3) X (by decide +kernel) rfl rfl) (
    okc (ok_iload X (by decide +kernel) rfl) (
    okc (ok_callV (ci := 0) (C := RX0) (T := TX0) (N := 5) (Y := (yX0_perform, cX0_perform, 7, (some .int))) X hcal opsS_n md_X0_perform rfl (by decide) rfl wc_X0_perform wl_X0_36 wi_X0 wm_X0_perform wv_X0_perform (by decide +kernel) (hRm 7 (by decide)) (by decide +kernel) rfl) (
    okc (ok_iconst (n := 1) X (by decide +kernel) rfl rfl) (
    okc (ok_iadd X (by decide +kernel) rfl) (
    okc (ok_iret hret (by decide +kernel)) (
    okc (ok_aload_n (j := 0) X (by decide +kernel) rfl rfl) (
    okc (ok_iload_n (j := 2) X (by decide +kernel) rfl rfl) (
    okc (ok_iconst (n := 0) X (by decide +kernel) rfl rfl) (
    okc (ok_iload_n (j := 3) X (by decide +kernel) rfl rfl) (
    okc (ok_iload X (by decide +kernel) rfl) (
    okc (ok_callV (ci := 0) (C := RX0) (T := TX0) (N := 5) (Y := (yX0_perform, cX0_perform, 7, (some .int))) X hcal opsS_n md_X0_perform rfl (by decide) rfl wc_X0_perform wl_X0_36 wi_X0 wm_X0_perform wv_X0_perform (by decide +kernel) (hRm 7 (by decide)) (by decide +kernel) rfl) (
    okc (ok_iconst (n := 2) X (by decide +kernel) rfl rfl) (
    okc (ok_imul X (by decide +kernel) rfl) (
    okc (ok_iret hret (by decide +kernel)) (
    okc (ok_aload_n (j := 0) X (by decide +kernel) rfl rfl) (
    okc (ok_iload_n (j := 2) X (by decide +kernel) rfl rfl) (
    okc (ok_iconst (n := 1) X (by decide +kernel) rfl rfl) (
    okc (ok_iload_n (j := 3) X (by decide +kernel) rfl rfl) (
    okc (ok_iload X (by decide +kernel) rfl) (
    okc (ok_callV (ci := 0) (C := RX0) (T := TX0) (N := 5) (Y := (yX0_perform, cX0_perform, 7, (some .int))) X hcal opsS_n md_X0_perform rfl (by decide) rfl wc_X0_perform wl_X0_36 wi_X0 wm_X0_perform wv_X0_perform (by decide +kernel) (hRm 7 (by decide)) (by decide +kernel) rfl) (
    okc (ok_aload_n (j := 0) X (by decide +kernel) rfl rfl) (
    okc (ok_iconst (n := 2) X (by decide +kernel) rfl rfl) (
    okc (ok_iconst (n := 2) X (by decide +kernel) rfl rfl) (
    okc (ok_iload X (by decide +kernel) rfl) (
    okc (ok_callV (ci := 0) (C := RX0) (T := TX0) (N := 5) (Y := (yX0_performOwn, cX0_performOwn, 4, (some .int))) X hcal opsS_n md_X0_performOwn rfl (by decide) rfl wc_X0_performOwn wl_X0_56 wi_X0 wm_X0_performOwn wv_X0_performOwn (by decide +kernel) (hRm 4 (by decide)) (by decide +kernel) rfl) (
    okc (ok_iadd X (by decide +kernel) rfl) (
    okc (ok_iret hret (by decide +kernel)) (
    okc (ok_aload_n (j := 0) X (by decide +kernel) rfl rfl) (
    okc (ok_iload_n (j := 2) X (by decide +kernel) rfl rfl) (
    okc (ok_iconst (n := 0) X (by decide +kernel) rfl rfl) (
    okc (ok_iload_n (j := 3) X (by decide +kernel) rfl rfl) (
    okc (ok_iload X (by decide +kernel) rfl) (
    okc (ok_callV (ci := 0) (C := RX0) (T := TX0) (N := 5) (Y := (yX0_perform, cX0_perform, 7, (some .int))) X hcal opsS_n md_X0_perform rfl (by decide) rfl wc_X0_perform wl_X0_36 wi_X0 wm_X0_perform wv_X0_perform (by decide +kernel) (hRm 7 (by decide)) (by decide +kernel) rfl) (
    okc (ok_iconst (n := 1) X (by decide +kernel) rfl rfl) (
    okc (ok_isub X (by decide +kernel) rfl) (
    okc (ok_iret hret (by decide +kernel)) (
    okc (ok_iconst (n := 0) X (by decide +kernel) rfl rfl) (
    okc (ok_iret hret (by decide +kernel)) (
    okn)))))))))))))))))))))))))))))))))))))))))))))))))))))))))))))))))))))))))))))))))))))))))))))))))))))))))))))))))))))))))))))))))))
noncomputable def es_X0_run (rc : Nat → Int32 → Int32 → Int32 → Int32 → SS → Option (Int32 × SS)) : List (Nat × En) := [(10, en_X0_performOwn rc), (9, en_X0_perform rc)]
set_option maxRecDepth 100000 in
set_option maxHeartbeats 4000000 in
theorem eq_X0_run (rc : Nat → Int32 → Int32 → Int32 → Int32 → SS → Option (Int32 × SS))  (a0 : Int32) (a1 : Int32) (a2 : Int32) (a3 : Int32) (s : SS) : ex (tb_X0_run (calE (es_X0_run rc))) rI [] (fun _ _ _ _ => none) 133 0 [some (.ref 55), some (.int a0), some (.int a1), some (.int a2), some (.int a3)] [] s = f_X0_run rc a0 a1 a2 a3 s := by
  rfl
set_option maxRecDepth 100000 in
set_option maxHeartbeats 4000000 in
theorem run_X0_run {l : Launch} {G : Gm} {rc : Nat → Int32 → Int32 → Int32 → Int32 → SS → Option (Int32 × SS)}  (a0 : Int32) (a1 : Int32) (a2 : Int32) (a3 : Int32) (s : SS) (q : (Int32 × SS)) (h : f_X0_run rc a0 a1 a2 a3 s = some q) (D' : Nat) (hD : 0 ≤ D') (hrc : rc_X0R l G D' rc) : RunsM l G (D' + 1) (md 11) (embS s) [.ref 55, .int a0, .int a1, .int a2, .int a3] (some (.int q.1)) (embS q.2) := by
  rw [md_X0_run]
  refine runs_I (plainFor_of_name (by decide +kernel)) (Nat.le_of_ble_eq_true rfl) rfl ?_
  intro A p e R s0 m args below meth c Q ad0 hR X hret
  have X : Cx G A RX0 cX0_run 5 p s0 m args c := X
  have hT := tk_X0_run X (calE_ok (es := es_X0_run rc) (enc (en_X0_performOwn_ok hrc) (enc (en_X0_perform_ok hrc) (enn)))) (rmD rfl hR) hret
  rw [← eq_X0_run rc  a0 a1 a2 a3 s] at h
  refine ex_good hT (fun pc' ls' st' x' hh => ?_) 133 0 _ [] s h
  cases hh


set_option maxRecDepth 100000 in
set_option maxHeartbeats 4000000 in
theorem g_X0R_ok {l : Launch} {G : Gm} : ∀ (n D : Nat), 3 + n ≤ D → rc_X0R l G D (g_X0R n) := by
  intro n
  induction n with
  | zero =>
    intro D hD
    exact ⟨fun a0 a1 a2 a3 s q h => absurd (show (none : Option (Int32 × SS)) = some q from h) (by simp), fun a0 a1 a2 s q h => absurd (show (none : Option (Int32 × SS)) = some q from h) (by simp), fun a0 a1 a2 a3 s q h => absurd (show (none : Option (Int32 × SS)) = some q from h) (by simp)⟩
  | succ n ih =>
    intro D hD
    obtain ⟨D', rfl⟩ : ∃ D', D = D' + 1 := ⟨D - 1, by omega⟩
    have hrc := ih D' (by omega)
    exact ⟨fun a0 a1 a2 a3 s q h => run_X0_perform (rc := g_X0R n) a0 a1 a2 a3 s q h D' (by omega) hrc, fun a0 a1 a2 s q h => run_X0_performOwn (rc := g_X0R n) a0 a1 a2 s q h D' (by omega) hrc, fun a0 a1 a2 a3 s q h => run_X0_run (rc := g_X0R n) a0 a1 a2 a3 s q h D' (by omega) hrc⟩
/-! HatRank$Bodies begin -/
noncomputable def tb_X0_begin (cal : Cal SS) : List (Nat × Ins SS) := [(0, e_aload 0 1), (1, e_iconst (0) 2), (2, e_putI opsS 0 1 5), (5, e_aload 0 6), (6, e_iload 1 7), (7, e_callV opsS cal 1 1 0 10), (10, e_ifeq 22 13), (13, e_iload 2 14), (14, e_iflt 22 17), (17, e_iload 2 18), (18, e_iconst (4) 19), (19, e_clt 24 22), (22, e_iconst (0) 23), (23, e_iret), (24, e_aload 0 25), (25, e_iload 1 26), (26, e_putI opsS 0 4 29), (29, e_aload 0 30), (30, e_aload 0 31), (31, e_getR opsS 0 2 34), (34, e_iload 1 35), (35, e_ald opsS 100 36), (36, e_iload 2 37), (37, e_iload 3 38), (38, e_iconst (0) 39), (39, e_callV opsS cal 9 4 0 42), (42, e_iret)]
set_option maxRecDepth 100000 in
set_option maxHeartbeats 4000000 in
theorem tk_X0_begin {ad0 : Nat → Nat} {G : Gm} {A : Nat → Prop} {p : Program} {l : Launch} {e : Env} {R : Room} {s0 : State} {m : MethodId} {args : Array Value} {below : List Frame} {meth : Method} {c : Code} {Q : State → Prop} {ρ : Type} {ret : Option Value → SS → Option ρ} {r : ρ} (X : Cx G A RX0 cX0_begin 4 p s0 m args c) {D' : Nat} {cal : Cal SS} (hcal : calOK l G opsS D' cal) (hRm : ∀ k, k ≤ 21 → D' + 1 ≤ R.frames ∧ 8 + (k + 11) + 40 * D' ≤ R.locals) (hret : RetK G A cX0_begin 113 6344 ad0 p l e R s0 m args below meth c Q opsS ret r .ireturn okI) : ∀ q ∈ tb_X0_begin cal, OKi G A 4 113 6344 ad0 p l e R s0 m args below meth c Q opsS ret r q.1 q.2 :=
    okc (ok_aload_n (j := 0) X (by decide +kernel) rfl rfl) (
    okc (ok_iconst (n := 0) X (by decide +kernel) rfl rfl) (
    okc (ok_putI (ci := 0) (kf := 1) (idx := 30) (C := RX0) (T := TX0) (N := 5) X opsS_ok rfl (by decide) inX0 tyX0_ok nmX0 (by decide) wf_X0_30 rfl (fun _ _ _ => rfl) (by decide +kernel) (by decide +kernel) rfl) (
    okc (ok_aload_n (j := 0) X (by decide +kernel) rfl rfl) (
    okc (ok_iload_n (j := 1) X (by decide +kernel) rfl rfl) (
    okc (ok_callV (ci := 0) (C := RX0) (T := TX0) (N := 5) (Y := (yX0_has, cX0_has, 2, (some .boolean))) X hcal opsS_n md_X0_has rfl (by decide) rfl wc_X0_has wl_X0_22 wi_X0 wm_X0_has wv_X0_has (by decide +kernel) (hRm 2 (by decide)) (by decide +kernel) rfl) (
    okc (ok_ifeq (off := 12) X (by decide +kernel) (by decide) rfl) (
    okc (ok_iload_n (j := 2) X (by decide +kernel) rfl rfl) (
    okc (ok_iflt (off := 8) X (by decide +kernel) (by decide) rfl) (
    okc (ok_iload_n (j := 2) X (by decide +kernel) rfl rfl) (
    okc (ok_iconst (n := 4) X (by decide +kernel) rfl rfl) (
    okc (ok_clt (off := 5) X (by decide +kernel) (by decide) rfl) (
    okc (ok_iconst (n := 0) X (by decide +kernel) rfl rfl) (
    okc (ok_iret hret (by decide +kernel)) (
    okc (ok_aload_n (j := 0) X (by decide +kernel) rfl rfl) (
    okc (ok_iload_n (j := 1) X (by decide +kernel) rfl rfl) (
    okc (ok_putI (ci := 0) (kf := 4) (idx := 33) (C := RX0) (T := TX0) (N := 5) X opsS_ok rfl (by decide) inX0 tyX0_ok nmX0 (by decide) wf_X0_33 rfl (fun _ _ _ => rfl) (by decide +kernel) (by decide +kernel) rfl) (
    okc (ok_aload_n (j := 0) X (by decide +kernel) rfl rfl) (
    okc (ok_aload_n (j := 0) X (by decide +kernel) rfl rfl) (
    okc (ok_getR (ci := 0) (kf := 2) (idx := 11) (C := RX0) (T := TX0) (N := 5) X rfl (by decide) inX0 (by decide) wf_X0_11 (fun _ _ _ => rfl) (by decide +kernel) rfl) (
    okc (ok_iload_n (j := 1) X (by decide +kernel) rfl rfl) (
    okc (ok_iald X (by decide +kernel) rfl) (
    okc (ok_iload_n (j := 2) X (by decide +kernel) rfl rfl) (
    okc (ok_iload_n (j := 3) X (by decide +kernel) rfl rfl) (
    okc (ok_iconst (n := 0) X (by decide +kernel) rfl rfl) (
    okc (ok_callV (ci := 0) (C := RX0) (T := TX0) (N := 5) (Y := (yX0_perform, cX0_perform, 7, (some .int))) X hcal opsS_n md_X0_perform rfl (by decide) rfl wc_X0_perform wl_X0_36 wi_X0 wm_X0_perform wv_X0_perform (by decide +kernel) (hRm 7 (by decide)) (by decide +kernel) rfl) (
    okc (ok_iret hret (by decide +kernel)) (
    okn)))))))))))))))))))))))))))
noncomputable def es_X0_begin  : List (Nat × En) := [(1, en_X0_has), (9, en_X0_perform (g_X0R fuelR))]
set_option maxRecDepth 100000 in
set_option maxHeartbeats 4000000 in
theorem eq_X0_begin   (a0 : Int32) (a1 : Int32) (a2 : Int32) (s : SS) : ex (tb_X0_begin (calE (es_X0_begin))) rI [] (fun _ _ _ _ => none) 29 0 [some (.ref 55), some (.int a0), some (.int a1), some (.int a2)] [] s = f_X0_begin a0 a1 a2 s := by
  rfl
set_option maxRecDepth 100000 in
set_option maxHeartbeats 4000000 in
theorem run_X0_begin {l : Launch} {G : Gm}   (a0 : Int32) (a1 : Int32) (a2 : Int32) (s : SS) (q : (Int32 × SS)) (h : f_X0_begin a0 a1 a2 s = some q) (D' : Nat) (hD : 103 ≤ D') : RunsM l G (D' + 1) (md 5) (embS s) [.ref 55, .int a0, .int a1, .int a2] (some (.int q.1)) (embS q.2) := by
  rw [md_X0_begin]
  refine runs_I (plainFor_of_name (by decide +kernel)) (Nat.le_of_ble_eq_true rfl) rfl ?_
  intro A p e R s0 m args below meth c Q ad0 hR X hret
  have X : Cx G A RX0 cX0_begin 4 p s0 m args c := X
  have hT := tk_X0_begin X (calE_ok (es := es_X0_begin) (enc (en_X0_has_ok _ (by omega)) (enc (en_X0_perform_ok (g_X0R_ok _ _ (by rw [fuelR_eq]; omega))) (enn)))) (rmD rfl hR) hret
  rw [← eq_X0_begin   a0 a1 a2 s] at h
  refine ex_good hT (fun pc' ls' st' x' hh => ?_) 29 0 _ [] s h
  cases hh

noncomputable def en_X0_begin  : En := fun _ av s k => match av with
  | [.ref r0, .int a0, .int a1, .int a2] => (gd (Nat.beq r0 55) (bI (f_X0_begin a0 a1 a2 s) k))
  | _ => none
set_option maxRecDepth 100000 in
set_option maxHeartbeats 4000000 in
theorem en_X0_begin_ok {l : Launch} {G : Gm} (D : Nat) (hD : 104 ≤ D) : enOK l G D 5 en_X0_begin := by
  intro ρ av x k r h
  unfold en_X0_begin at h
  split at h
  · obtain ⟨g0, h⟩ := gd_some h
    obtain ⟨q, h1, h2⟩ := bind_of h
    have e0 := beq1 g0
    subst e0
    obtain ⟨D', rfl⟩ : ∃ D', D = D' + 1 := ⟨D - 1, by omega⟩
    exact ⟨_, _, h2, run_X0_begin  _ _ _ _ _ h1 D' (by omega)⟩
  · cases h

/-! HatRank$Bodies ran -/
noncomputable def tb_X0_ran (cal : Cal SS) : List (Nat × Ins SS) := [(0, e_iload 1 1), (1, e_iflt 27 4), (4, e_iload 1 5), (5, e_aload 0 6), (6, e_getI opsS 0 1 9), (9, e_cge 27 12), (12, e_iload 1 13), (13, e_iconst (24) 15), (15, e_cge 27 18), (18, e_aload 0 19), (19, e_getR opsS 0 3 22), (22, e_iload 1 23), (23, e_ald opsS 100 24), (24, e_goto 28), (27, e_iconst (-1) 28), (28, e_iret)]
set_option maxRecDepth 100000 in
set_option maxHeartbeats 4000000 in
theorem tk_X0_ran {ad0 : Nat → Nat} {G : Gm} {A : Nat → Prop} {p : Program} {l : Launch} {e : Env} {R : Room} {s0 : State} {m : MethodId} {args : Array Value} {below : List Frame} {meth : Method} {c : Code} {Q : State → Prop} {ρ : Type} {ret : Option Value → SS → Option ρ} {r : ρ} (X : Cx G A RX0 cX0_ran 2 p s0 m args c) {D' : Nat} {cal : Cal SS} (hcal : calOK l G opsS D' cal) (hRm : ∀ k, k ≤ 21 → D' + 1 ≤ R.frames ∧ 8 + (k + 11) + 40 * D' ≤ R.locals) (hret : RetK G A cX0_ran 113 6344 ad0 p l e R s0 m args below meth c Q opsS ret r .ireturn okI) : ∀ q ∈ tb_X0_ran cal, OKi G A 2 113 6344 ad0 p l e R s0 m args below meth c Q opsS ret r q.1 q.2 :=
    okc (ok_iload_n (j := 1) X (by decide +kernel) rfl rfl) (
    okc (ok_iflt (off := 26) X (by decide +kernel) (by decide) rfl) (
    okc (ok_iload_n (j := 1) X (by decide +kernel) rfl rfl) (
    okc (ok_aload_n (j := 0) X (by decide +kernel) rfl rfl) (
    okc (ok_getI (ci := 0) (kf := 1) (idx := 30) (C := RX0) (T := TX0) (N := 5) X rfl (by decide) inX0 (by decide) wf_X0_30 (fun _ _ _ => rfl) (by decide +kernel) rfl) (
    okc (ok_cge (off := 18) X (by decide +kernel) (by decide) rfl) (
    okc (ok_iload_n (j := 1) X (by decide +kernel) rfl rfl) (
    okc (ok_bipush (n := 24) X (by decide +kernel) rfl rfl) (
    okc (ok_cge (off := 12) X (by decide +kernel) (by decide) rfl) (
    okc (ok_aload_n (j := 0) X (by decide +kernel) rfl rfl) (
    okc (ok_getR (ci := 0) (kf := 3) (idx := 15) (C := RX0) (T := TX0) (N := 5) X rfl (by decide) inX0 (by decide) wf_X0_15 (fun _ _ _ => rfl) (by decide +kernel) rfl) (
    okc (ok_iload_n (j := 1) X (by decide +kernel) rfl rfl) (
    okc (ok_iald X (by decide +kernel) rfl) (
    okc (ok_goto (off := 4) X (by decide +kernel) (by decide)) (
    okc (ok_iconst (n := -1) X (by decide +kernel) rfl rfl) (
    okc (ok_iret hret (by decide +kernel)) (
    okn))))))))))))))))
noncomputable def es_X0_ran  : List (Nat × En) := []
set_option maxRecDepth 100000 in
set_option maxHeartbeats 4000000 in
theorem eq_X0_ran   (a0 : Int32) (s : SS) : ex (tb_X0_ran (calE (es_X0_ran))) rI [] (fun _ _ _ _ => none) 18 0 [some (.ref 55), some (.int a0)] [] s = f_X0_ran a0 s := by
  rfl
set_option maxRecDepth 100000 in
set_option maxHeartbeats 4000000 in
theorem run_X0_ran {l : Launch} {G : Gm}   (a0 : Int32) (s : SS) (q : (Int32 × SS)) (h : f_X0_ran a0 s = some q) (D' : Nat) (hD : 0 ≤ D') : RunsM l G (D' + 1) (md 6) (embS s) [.ref 55, .int a0] (some (.int q.1)) (embS q.2) := by
  rw [md_X0_ran]
  refine runs_I (plainFor_of_name (by decide +kernel)) (Nat.le_of_ble_eq_true rfl) rfl ?_
  intro A p e R s0 m args below meth c Q ad0 hR X hret
  have X : Cx G A RX0 cX0_ran 2 p s0 m args c := X
  have hT := tk_X0_ran X (calE_ok (es := es_X0_ran) (enn)) (rmD rfl hR) hret
  rw [← eq_X0_ran   a0 s] at h
  refine ex_good hT (fun pc' ls' st' x' hh => ?_) 18 0 _ [] s h
  cases hh

noncomputable def en_X0_ran  : En := fun _ av s k => match av with
  | [.ref r0, .int a0] => (gd (Nat.beq r0 55) (bI (f_X0_ran a0 s) k))
  | _ => none
set_option maxRecDepth 100000 in
set_option maxHeartbeats 4000000 in
theorem en_X0_ran_ok {l : Launch} {G : Gm} (D : Nat) (hD : 1 ≤ D) : enOK l G D 6 en_X0_ran := by
  intro ρ av x k r h
  unfold en_X0_ran at h
  split at h
  · obtain ⟨g0, h⟩ := gd_some h
    obtain ⟨q, h1, h2⟩ := bind_of h
    have e0 := beq1 g0
    subst e0
    obtain ⟨D', rfl⟩ : ∃ D', D = D' + 1 := ⟨D - 1, by omega⟩
    exact ⟨_, _, h2, run_X0_ran  _ _ _ h1 D' (by omega)⟩
  · cases h

/-! HatRank$Odds weigh -/
noncomputable def tb_X5_weigh (cal : Cal SS) : List (Nat × Ins SS) := [(0, e_aload 0 1), (1, e_dup 2), (2, e_getL opsS 5 10 5), (5, e_lload 1 6), (6, e_lbin lAdd 7), (7, e_putL opsS 5 10 10), (10, e_aload 0 11), (11, e_dup 12), (12, e_getL opsS 5 9 15), (15, e_lload 1 16), (16, e_aload 0 17), (17, e_getR opsS 5 3 20), (20, e_getR opsS 2 0 23), (23, e_aload 0 24), (24, e_getI opsS 5 5 27), (27, e_ald opsS 100 28), (28, e_i2l 29), (29, e_lbin lMul 30), (30, e_lbin lAdd 31), (31, e_putL opsS 5 9 34), (34, e_aload 0 35), (35, e_getR opsS 5 0 38), (38, e_aload 0 39), (39, e_getR opsS 5 3 42), (42, e_callV opsS cal 87 1 9 45), (45, e_aload 0 46), (46, e_getI opsS 5 5 49), (49, e_cne 62 52), (52, e_aload 0 53), (53, e_dup 54), (54, e_getL opsS 5 8 57), (57, e_lload 1 58), (58, e_lbin lAdd 59), (59, e_putL opsS 5 8 62), (62, e_vret)]
set_option maxRecDepth 100000 in
set_option maxHeartbeats 4000000 in
theorem tk_X5_weigh {ad0 : Nat → Nat} {G : Gm} {A : Nat → Prop} {p : Program} {l : Launch} {e : Env} {R : Room} {s0 : State} {m : MethodId} {args : Array Value} {below : List Frame} {meth : Method} {c : Code} {Q : State → Prop} {ρ : Type} {ret : Option Value → SS → Option ρ} {r : ρ} (X : Cx G A RX5 cX5_weigh 3 p s0 m args c) {D' : Nat} {cal : Cal SS} (hcal : calOK l G opsS D' cal) (hRm : ∀ k, k ≤ 21 → D' + 1 ≤ R.frames ∧ 8 + (k + 11) + 40 * D' ≤ R.locals) (hret : RetK G A cX5_weigh 113 6344 ad0 p l e R s0 m args below meth c Q opsS ret r .return_ okV) : ∀ q ∈ tb_X5_weigh cal, OKi G A 3 113 6344 ad0 p l e R s0 m args below meth c Q opsS ret r q.1 q.2 :=
    okc (ok_aload_n (j := 0) X (by decide +kernel) rfl rfl) (
    okc (ok_dup X (by decide +kernel) rfl) (
    okc (ok_getL (ci := 5) (kf := 10) (idx := 62) (C := RX5) (T := TX5) (N := 11) X rfl (by decide) inX5 (by decide) wf_X5_62 (fun _ _ _ => rfl) (by decide +kernel) rfl) (
    okc (ok_lload_n (j := 1) X (by decide +kernel) rfl rfl) (
    okc (ok_ladd X (by decide +kernel) rfl) (
    okc (ok_putL (ci := 5) (kf := 10) (idx := 62) (C := RX5) (T := TX5) (N := 11) X opsS_ok rfl (by decide) inX5 tyX5_ok nmX5 (by decide) wf_X5_62 rfl (fun _ _ _ => rfl) (by decide +kernel) (by decide +kernel) rfl) (
    okc (ok_aload_n (j := 0) X (by decide +kernel) rfl rfl) (
    okc (ok_dup X (by decide +kernel) rfl) (
    okc (ok_getL (ci := 5) (kf := 9) (idx := 59) (C := RX5) (T := TX5) (N := 11) X rfl (by decide) inX5 (by decide) wf_X5_59 (fun _ _ _ => rfl) (by decide +kernel) rfl) (
    okc (ok_lload_n (j := 1) X (by decide +kernel) rfl rfl) (
    okc (ok_aload_n (j := 0) X (by decide +kernel) rfl rfl) (
    okc (ok_getR (ci := 5) (kf := 3) (idx := 12) (C := RX5) (T := TX5) (N := 11) X rfl (by decide) inX5 (by decide) wf_X5_12 (fun _ _ _ => rfl) (by decide +kernel) rfl) (
    okc (ok_getR (ci := 2) (kf := 0) (idx := 105) (C := RX2) (T := TX2) (N := 4) X rfl (by decide) inX2 (by decide) wf_X5_105 (fun _ _ _ => rfl) (by decide +kernel) rfl) (
    okc (ok_aload_n (j := 0) X (by decide +kernel) rfl rfl) (
    okc (ok_getI (ci := 5) (kf := 5) (idx := 42) (C := RX5) (T := TX5) (N := 11) X rfl (by decide) inX5 (by decide) wf_X5_42 (fun _ _ _ => rfl) (by decide +kernel) rfl) (
    okc (ok_iald X (by decide +kernel) rfl) (
    okc (ok_i2l X (by decide +kernel) rfl) (
    okc (ok_lmul X (by decide +kernel) rfl) (
    okc (ok_ladd X (by decide +kernel) rfl) (
    okc (ok_putL (ci := 5) (kf := 9) (idx := 59) (C := RX5) (T := TX5) (N := 11) X opsS_ok rfl (by decide) inX5 tyX5_ok nmX5 (by decide) wf_X5_59 rfl (fun _ _ _ => rfl) (by decide +kernel) (by decide +kernel) rfl) (
    okc (ok_aload_n (j := 0) X (by decide +kernel) rfl rfl) (
    okc (ok_getR (ci := 5) (kf := 0) (idx := 22) (C := RX5) (T := TX5) (N := 11) X rfl (by decide) inX5 (by decide) wf_X5_22 (fun _ _ _ => rfl) (by decide +kernel) rfl) (
    okc (ok_aload_n (j := 0) X (by decide +kernel) rfl rfl) (
    okc (ok_getR (ci := 5) (kf := 3) (idx := 12) (C := RX5) (T := TX5) (N := 11) X rfl (by decide) inX5 (by decide) wf_X5_12 (fun _ _ _ => rfl) (by decide +kernel) rfl) (
    okc (ok_callV (ci := 9) (C := RX9) (T := TX9) (N := 8) (Y := (yX9_commander, cX9_commander, 4, (some .int))) X hcal opsS_n md_X9_commander rfl (by decide) rfl wc_X9_commander wl_X5_107 wi_X9 wm_X9_commander wv_X9_commander (by decide +kernel) (hRm 4 (by decide)) (by decide +kernel) rfl) (
    okc (ok_aload_n (j := 0) X (by decide +kernel) rfl rfl) (
    okc (ok_getI (ci := 5) (kf := 5) (idx := 42) (C := RX5) (T := TX5) (N := 11) X rfl (by decide) inX5 (by decide) wf_X5_42 (fun _ _ _ => rfl) (by decide +kernel) rfl) (
    okc (ok_cne (off := 13) X (by decide +kernel) (by decide) rfl) (
    okc (ok_aload_n (j := 0) X (by decide +kernel) rfl rfl) (
    okc (ok_dup X (by decide +kernel) rfl) (
    okc (ok_getL (ci := 5) (kf := 8) (idx := 55) (C := RX5) (T := TX5) (N := 11) X rfl (by decide) inX5 (by decide) wf_X5_55 (fun _ _ _ => rfl) (by decide +kernel) rfl) (
    okc (ok_lload_n (j := 1) X (by decide +kernel) rfl rfl) (
    okc (ok_ladd X (by decide +kernel) rfl) (
    okc (ok_putL (ci := 5) (kf := 8) (idx := 55) (C := RX5) (T := TX5) (N := 11) X opsS_ok rfl (by decide) inX5 tyX5_ok nmX5 (by decide) wf_X5_55 rfl (fun _ _ _ => rfl) (by decide +kernel) (by decide +kernel) rfl) (
    okc (ok_vret hret (by decide +kernel)) (
    okn)))))))))))))))))))))))))))))))))))
noncomputable def es_X5_weigh  : List (Nat × En) := [(87, en_X9_commander)]
set_option maxRecDepth 100000 in
set_option maxHeartbeats 4000000 in
theorem eq_X5_weigh   (a0 : Int64) (s : SS) : ex (tb_X5_weigh (calE (es_X5_weigh))) rV [] (fun _ _ _ _ => none) 37 0 [some (.ref 34), some (.long a0), none] [] s = f_X5_weigh a0 s := by
  rfl
set_option maxRecDepth 100000 in
set_option maxHeartbeats 4000000 in
theorem run_X5_weigh {l : Launch} {G : Gm}   (a0 : Int64) (s : SS) (q : SS) (h : f_X5_weigh a0 s = some q) (D' : Nat) (hD : 1 ≤ D') : RunsM l G (D' + 1) (md 40) (embS s) [.ref 34, .long a0] none (embS q) := by
  rw [md_X5_weigh]
  refine runs_V (plainFor_of_name (by decide +kernel)) (Nat.le_of_ble_eq_true rfl) rfl ?_
  intro A p e R s0 m args below meth c Q ad0 hR X hret
  have X : Cx G A RX5 cX5_weigh 3 p s0 m args c := X
  have hT := tk_X5_weigh X (calE_ok (es := es_X5_weigh) (enc (en_X9_commander_ok _ (by omega)) (enn))) (rmD rfl hR) hret
  rw [← eq_X5_weigh   a0 s] at h
  refine ex_good hT (fun pc' ls' st' x' hh => ?_) 37 0 _ [] s h
  cases hh

noncomputable def en_X5_weigh  : En := fun _ av s k => match av with
  | [.ref r0, .long a0] => (gd (Nat.beq r0 34) (bV (f_X5_weigh a0 s) k))
  | _ => none
set_option maxRecDepth 100000 in
set_option maxHeartbeats 4000000 in
theorem en_X5_weigh_ok {l : Launch} {G : Gm} (D : Nat) (hD : 2 ≤ D) : enOK l G D 40 en_X5_weigh := by
  intro ρ av x k r h
  unfold en_X5_weigh at h
  split at h
  · obtain ⟨g0, h⟩ := gd_some h
    obtain ⟨q, h1, h2⟩ := bind_of h
    have e0 := beq1 g0
    subst e0
    obtain ⟨D', rfl⟩ : ∃ D', D = D' + 1 := ⟨D - 1, by omega⟩
    exact ⟨_, _, h2, run_X5_weigh  _ _ _ h1 D' (by omega)⟩
  · cases h

def rc_X5R (l : Launch) (G : Gm) (D : Nat) (rc : Nat → Int32 → Int32 → Int64 → SS → Option SS) : Prop := (∀ (a0 : Int32) (a1 : Int64) (s : SS) (q : SS), rc 0 a0 0 a1 s = some q → RunsM l G D (md 38) (embS s) [.ref 34, .int a0, .long a1] none (embS q)) ∧ (∀ (a0 : Int32) (a1 : Int32) (a2 : Int64) (s : SS) (q : SS), rc 1 a0 a1 a2 s = some q → RunsM l G D (md 39) (embS s) [.ref 34, .int a0, .int a1, .long a2] none (embS q))
noncomputable def en_X5_spreadHour (rc : Nat → Int32 → Int32 → Int64 → SS → Option SS) : En := fun _ av s k => match av with
  | [.ref r0, .int a0, .long a1] => (gd (Nat.beq r0 34) (bV (rc 0 a0 0 a1 s) k))
  | _ => none
set_option maxRecDepth 100000 in
set_option maxHeartbeats 4000000 in
theorem en_X5_spreadHour_ok {l : Launch} {G : Gm} {D : Nat} {rc : Nat → Int32 → Int32 → Int64 → SS → Option SS} (hrc : rc_X5R l G D rc) : enOK l G D 38 (en_X5_spreadHour rc) := by
  intro ρ av x k r h
  unfold en_X5_spreadHour at h
  split at h
  · obtain ⟨g0, h⟩ := gd_some h
    obtain ⟨q, h1, h2⟩ := bind_of h
    have e0 := beq1 g0
    subst e0
    exact ⟨_, _, h2, hrc.1 _ _ _ _ h1⟩
  · cases h

noncomputable def en_X5_spreadPerson (rc : Nat → Int32 → Int32 → Int64 → SS → Option SS) : En := fun _ av s k => match av with
  | [.ref r0, .int a0, .int a1, .long a2] => (gd (Nat.beq r0 34) (bV (rc 1 a0 a1 a2 s) k))
  | _ => none
set_option maxRecDepth 100000 in
set_option maxHeartbeats 4000000 in
theorem en_X5_spreadPerson_ok {l : Launch} {G : Gm} {D : Nat} {rc : Nat → Int32 → Int32 → Int64 → SS → Option SS} (hrc : rc_X5R l G D rc) : enOK l G D 39 (en_X5_spreadPerson rc) := by
  intro ρ av x k r h
  unfold en_X5_spreadPerson at h
  split at h
  · obtain ⟨g0, h⟩ := gd_some h
    obtain ⟨q, h1, h2⟩ := bind_of h
    have e0 := beq1 g0
    subst e0
    exact ⟨_, _, h2, hrc.2 _ _ _ _ _ h1⟩
  · cases h

/-! HatRank$Odds spreadHour -/
noncomputable def tb_X5_spreadHour (cal : Cal SS) : List (Nat × Ins SS) := [(0, e_iload 1 1), (1, e_aload 0 2), (2, e_getI opsS 5 6 5), (5, e_bin aSub 6), (6, e_istore 4 8), (8, e_iload 1 9), (9, e_aload 0 10), (10, e_getI opsS 5 7 13), (13, e_cge 31 16), (16, e_iload 4 18), (18, e_iflt 31 21), (21, e_iload 4 23), (23, e_aload 0 24), (24, e_getR opsS 5 4 27), (27, e_alen opsS 28), (28, e_clt 37 31), (31, e_aload 0 32), (32, e_lload 2 33), (33, e_callV opsS cal 40 1 5 36), (36, e_vret), (37, e_aload 0 38), (38, e_getR opsS 5 4 41), (41, e_iload 4 43), (43, e_aaldS 39 40 4 2 44), (44, e_aload 0 45), (45, e_getR opsS 5 3 48), (48, e_callV opsS cal 18 1 2 51), (51, e_aload 0 52), (52, e_getR opsS 5 2 55), (55, e_aload 0 56), (56, e_getR opsS 5 3 59), (59, e_callV opsS cal 93 1 10 62), (62, e_aload 0 63), (63, e_iload 1 64), (64, e_iconst (0) 65), (65, e_lload 2 66), (66, e_callV opsS cal 39 3 5 69), (69, e_aload 0 70), (70, e_getR opsS 5 3 73), (73, e_aload 0 74), (74, e_getR opsS 5 4 77), (77, e_iload 4 79), (79, e_aaldS 39 40 4 2 80), (80, e_callV opsS cal 18 1 2 83), (83, e_vret)]
set_option maxRecDepth 100000 in
set_option maxHeartbeats 4000000 in
theorem tk_X5_spreadHour {ad0 : Nat → Nat} {G : Gm} {A : Nat → Prop} {p : Program} {l : Launch} {e : Env} {R : Room} {s0 : State} {m : MethodId} {args : Array Value} {below : List Frame} {meth : Method} {c : Code} {Q : State → Prop} {ρ : Type} {ret : Option Value → SS → Option ρ} {r : ρ} (X : Cx G A RX5 cX5_spreadHour 5 p s0 m args c) {D' : Nat} {cal : Cal SS} (hcal : calOK l G opsS D' cal) (hRm : ∀ k, k ≤ 21 → D' + 1 ≤ R.frames ∧ 8 + (k + 11) + 40 * D' ≤ R.locals) (hret : RetK G A cX5_spreadHour 113 6344 ad0 p l e R s0 m args below meth c Q opsS ret r .return_ okV) : ∀ q ∈ tb_X5_spreadHour cal, OKi G A 5 113 6344 ad0 p l e R s0 m args below meth c Q opsS ret r q.1 q.2 :=
    okc (ok_iload_n (j := 1) X (by decide +kernel) rfl rfl) (
    okc (ok_aload_n (j := 0) X (by decide +kernel) rfl rfl) (
    okc (ok_getI (ci := 5) (kf := 6) (idx := 49) (C := RX5) (T := TX5) (N := 11) X rfl (by decide) inX5 (by decide) wf_X5_49 (fun _ _ _ => rfl) (by decide +kernel) rfl) (
    okc (ok_isub X (by decide +kernel) rfl) (
    okc (ok_istore X (by decide +kernel) rfl) (
    okc (ok_iload_n (j := 1) X (by decide +kernel) rfl rfl) (
    okc (ok_aload_n (j := 0) X (by decide +kernel) rfl rfl) (
    okc (ok_getI (ci := 5) (kf := 7) (idx := 52) (C := RX5) (T := TX5) (N := 11) X rfl (by decide) inX5 (by decide) wf_X5_52 (fun _ _ _ => rfl) (by decide +kernel) rfl) (
    okc (ok_cge (off := 18) X (by decide +kernel) (by decide) rfl) (
    okc (ok_iload X (by decide +kernel) rfl) (
    okc (ok_iflt (off := 13) X (by decide +kernel) (by decide) rfl) (
    okc (ok_iload X (by decide +kernel) rfl) (
    okc (ok_aload_n (j := 0) X (by decide +kernel) rfl rfl) (
    okc (ok_getR (ci := 5) (kf := 4) (idx := 18) (C := RX5) (T := TX5) (N := 11) X rfl (by decide) inX5 (by decide) wf_X5_18 (fun _ _ _ => rfl) (by decide +kernel) rfl) (
    okc (ok_alen X (by decide +kernel) rfl) (
    okc (ok_clt (off := 9) X (by decide +kernel) (by decide) rfl) (
    okc (ok_aload_n (j := 0) X (by decide +kernel) rfl rfl) (
    okc (ok_lload_n (j := 2) X (by decide +kernel) rfl rfl) (
    okc (ok_callV (ci := 5) (C := RX5) (T := TX5) (N := 11) (Y := (yX5_weigh, cX5_weigh, 3, none)) X hcal opsS_n md_X5_weigh rfl (by decide) rfl wc_X5_weigh wl_X5_75 wi_X5 wm_X5_weigh wv_X5_weigh (by decide +kernel) (hRm 3 (by decide)) (by decide +kernel) rfl) (
    okc (ok_vret hret (by decide +kernel)) (
    okc (ok_aload_n (j := 0) X (by decide +kernel) rfl rfl) (
    okc (ok_getR (ci := 5) (kf := 4) (idx := 18) (C := RX5) (T := TX5) (N := 11) X rfl (by decide) inX5 (by decide) wf_X5_18 (fun _ _ _ => rfl) (by decide +kernel) rfl) (
    okc (ok_iload X (by decide +kernel) rfl) (
    okc (ok_aaldB X (by decide +kernel) rfl) (
    okc (ok_aload_n (j := 0) X (by decide +kernel) rfl rfl) (
    okc (ok_getR (ci := 5) (kf := 3) (idx := 12) (C := RX5) (T := TX5) (N := 11) X rfl (by decide) inX5 (by decide) wf_X5_12 (fun _ _ _ => rfl) (by decide +kernel) rfl) (
    okc (ok_callV (ci := 2) (C := RX2) (T := TX2) (N := 4) (Y := (yX2_become, cX2_become, 2, none)) X hcal opsS_n md_X2_become rfl (by decide) rfl wc_X2_become wl_X5_34 wi_X2 wm_X2_become wv_X2_become (by decide +kernel) (hRm 2 (by decide)) (by decide +kernel) rfl) (
    okc (ok_aload_n (j := 0) X (by decide +kernel) rfl rfl) (
    okc (ok_getR (ci := 5) (kf := 2) (idx := 30) (C := RX5) (T := TX5) (N := 11) X rfl (by decide) inX5 (by decide) wf_X5_30 (fun _ _ _ => rfl) (by decide +kernel) rfl) (
    okc (ok_aload_n (j := 0) X (by decide +kernel) rfl rfl) (
    okc (ok_getR (ci := 5) (kf := 3) (idx := 12) (C := RX5) (T := TX5) (N := 11) X rfl (by decide) inX5 (by decide) wf_X5_12 (fun _ _ _ => rfl) (by decide +kernel) rfl) (
    okc (ok_callV (ci := 10) (C := RX10) (T := TX10) (N := 4) (Y := (yX10_takeUp, cX10_takeUp, 4, none)) X hcal opsS_n md_X10_takeUp rfl (by decide) rfl wc_X10_takeUp wl_X5_79 wi_X10 wm_X10_takeUp wv_X10_takeUp (by decide +kernel) (hRm 4 (by decide)) (by decide +kernel) rfl) (
    okc (ok_aload_n (j := 0) X (by decide +kernel) rfl rfl) (
    okc (ok_iload_n (j := 1) X (by decide +kernel) rfl rfl) (
    okc (ok_iconst (n := 0) X (by decide +kernel) rfl rfl) (
    okc (ok_lload_n (j := 2) X (by decide +kernel) rfl rfl) (
    okc (ok_callV (ci := 5) (C := RX5) (T := TX5) (N := 11) (Y := (yX5_spreadPerson, cX5_spreadPerson, 7, none)) X hcal opsS_n md_X5_spreadPerson rfl (by decide) rfl wc_X5_spreadPerson wl_X5_84 wi_X5 wm_X5_spreadPerson wv_X5_spreadPerson (by decide +kernel) (hRm 7 (by decide)) (by decide +kernel) rfl) (
    okc (ok_aload_n (j := 0) X (by decide +kernel) rfl rfl) (
    okc (ok_getR (ci := 5) (kf := 3) (idx := 12) (C := RX5) (T := TX5) (N := 11) X rfl (by decide) inX5 (by decide) wf_X5_12 (fun _ _ _ => rfl) (by decide +kernel) rfl) (
    okc (ok_aload_n (j := 0) X (by decide +kernel) rfl rfl) (
    okc (ok_getR (ci := 5) (kf := 4) (idx := 18) (C := RX5) (T := TX5) (N := 11) X rfl (by decide) inX5 (by decide) wf_X5_18 (fun _ _ _ => rfl) (by decide +kernel) rfl) (
    okc (ok_iload X (by decide +kernel) rfl) (
    okc (ok_aaldB X (by decide +kernel) rfl) (
    okc (ok_callV (ci := 2) (C := RX2) (T := TX2) (N := 4) (Y := (yX2_become, cX2_become, 2, none)) X hcal opsS_n md_X2_become rfl (by decide) rfl wc_X2_become wl_X5_34 wi_X2 wm_X2_become wv_X2_become (by decide +kernel) (hRm 2 (by decide)) (by decide +kernel) rfl) (
    okc (ok_vret hret (by decide +kernel)) (
    okn)))))))))))))))))))))))))))))))))))))))))))))
noncomputable def es_X5_spreadHour (rc : Nat → Int32 → Int32 → Int64 → SS → Option SS) : List (Nat × En) := [(40, en_X5_weigh), (18, en_X2_become), (93, en_X10_takeUp), (39, en_X5_spreadPerson rc)]
set_option maxRecDepth 100000 in
set_option maxHeartbeats 4000000 in
theorem eq_X5_spreadHour (rc : Nat → Int32 → Int32 → Int64 → SS → Option SS)  (a0 : Int32) (a1 : Int64) (s : SS) : ex (tb_X5_spreadHour (calE (es_X5_spreadHour rc))) rV [] (fun _ _ _ _ => none) 47 0 [some (.ref 34), some (.int a0), some (.long a1), none, none] [] s = f_X5_spreadHour rc a0 a1 s := by
  rfl
set_option maxRecDepth 100000 in
set_option maxHeartbeats 4000000 in
theorem run_X5_spreadHour {l : Launch} {G : Gm} {rc : Nat → Int32 → Int32 → Int64 → SS → Option SS}  (a0 : Int32) (a1 : Int64) (s : SS) (q : SS) (h : f_X5_spreadHour rc a0 a1 s = some q) (D' : Nat) (hD : 2 ≤ D') (hrc : rc_X5R l G D' rc) : RunsM l G (D' + 1) (md 38) (embS s) [.ref 34, .int a0, .long a1] none (embS q) := by
  rw [md_X5_spreadHour]
  refine runs_V (plainFor_of_name (by decide +kernel)) (Nat.le_of_ble_eq_true rfl) rfl ?_
  intro A p e R s0 m args below meth c Q ad0 hR X hret
  have X : Cx G A RX5 cX5_spreadHour 5 p s0 m args c := X
  have hT := tk_X5_spreadHour X (calE_ok (es := es_X5_spreadHour rc) (enc (en_X5_weigh_ok _ (by omega)) (enc (en_X2_become_ok _ (by omega)) (enc (en_X10_takeUp_ok _ (by omega)) (enc (en_X5_spreadPerson_ok hrc) (enn)))))) (rmD rfl hR) hret
  rw [← eq_X5_spreadHour rc  a0 a1 s] at h
  refine ex_good hT (fun pc' ls' st' x' hh => ?_) 47 0 _ [] s h
  cases hh


/-! HatRank$Odds spreadPerson -/
noncomputable def tb_X5_spreadPerson (cal : Cal SS) : List (Nat × Ins SS) := [(0, e_iload 2 1), (1, e_aload 0 2), (2, e_getR opsS 5 0 5), (5, e_getI opsS 9 0 8), (8, e_clt 20 11), (11, e_aload 0 12), (12, e_iload 1 13), (13, e_iconst (1) 14), (14, e_bin aAdd 15), (15, e_lload 3 16), (16, e_callV opsS cal 38 2 5 19), (19, e_vret), (20, e_aload 0 21), (21, e_getR opsS 5 1 24), (24, e_aload 0 25), (25, e_getR opsS 5 3 28), (28, e_iload 2 29), (29, e_iload 1 30), (30, e_callV opsS cal 32 3 4 33), (33, e_istore 5 35), (35, e_iload 5 37), (37, e_iconst (12) 39), (39, e_cge 58 42), (42, e_aload 0 43), (43, e_iload 1 44), (44, e_iload 2 45), (45, e_iconst (1) 46), (46, e_bin aAdd 47), (47, e_lload 3 48), (48, e_iconst (12) 50), (50, e_iload 5 52), (52, e_bin aSub 53), (53, e_i2l 54), (54, e_lbin lMul 55), (55, e_callV opsS cal 39 3 5 58), (58, e_iload 5 60), (60, e_ifle 104 63), (63, e_aload 0 64), (64, e_getR opsS 5 2 67), (67, e_aload 0 68), (68, e_getR opsS 5 3 71), (71, e_iload 2 72), (72, e_callV opsS cal 94 2 10 75), (75, e_istore 6 77), (77, e_aload 0 78), (78, e_iload 1 79), (79, e_iload 2 80), (80, e_iconst (1) 81), (81, e_bin aAdd 82), (82, e_lload 3 83), (83, e_iload 5 85), (85, e_i2l 86), (86, e_lbin lMul 87), (87, e_callV opsS cal 39 3 5 90), (90, e_aload 0 91), (91, e_getR opsS 5 2 94), (94, e_aload 0 95), (95, e_getR opsS 5 3 98), (98, e_iload 2 99), (99, e_iload 6 101), (101, e_callV opsS cal 95 3 10 104), (104, e_vret)]
set_option maxRecDepth 100000 in
set_option maxHeartbeats 4000000 in
theorem tk_X5_spreadPerson {ad0 : Nat → Nat} {G : Gm} {A : Nat → Prop} {p : Program} {l : Launch} {e : Env} {R : Room} {s0 : State} {m : MethodId} {args : Array Value} {below : List Frame} {meth : Method} {c : Code} {Q : State → Prop} {ρ : Type} {ret : Option Value → SS → Option ρ} {r : ρ} (X : Cx G A RX5 cX5_spreadPerson 7 p s0 m args c) {D' : Nat} {cal : Cal SS} (hcal : calOK l G opsS D' cal) (hRm : ∀ k, k ≤ 21 → D' + 1 ≤ R.frames ∧ 8 + (k + 11) + 40 * D' ≤ R.locals) (hret : RetK G A cX5_spreadPerson 113 6344 ad0 p l e R s0 m args below meth c Q opsS ret r .return_ okV) : ∀ q ∈ tb_X5_spreadPerson cal, OKi G A 7 113 6344 ad0 p l e R s0 m args below meth c Q opsS ret r q.1 q.2 :=
    okc (ok_iload_n (j := 2) X (by decide +kernel) rfl rfl) (
    okc (ok_aload_n (j := 0) X (by decide +kernel) rfl rfl) (
    okc (ok_getR (ci := 5) (kf := 0) (idx := 22) (C := RX5) (T := TX5) (N := 11) X rfl (by decide) inX5 (by decide) wf_X5_22 (fun _ _ _ => rfl) (by decide +kernel) rfl) (
    okc (ok_getI (ci := 9) (kf := 0) (idx := 88) (C := RX9) (T := TX9) (N := 8) X rfl (by decide) inX9 (by decide) wf_X5_88 (fun _ _ _ => rfl) (by decide +kernel) rfl) (
    okc (ok_clt (off := 12) X (by decide +kernel) (by decide) rfl) (
    okc (ok_aload_n (j := 0) X (by decide +kernel) rfl rfl) (
    okc (ok_iload_n (j := 1) X (by decide +kernel) rfl rfl) (
    okc (ok_iconst (n := 1) X (by decide +kernel) rfl rfl) (
    okc (ok_iadd X (by decide +kernel) rfl) (
    okc (ok_lload_n (j := 3) X (by decide +kernel) rfl rfl) (
    okc (ok_callV (ci := 5) (C := RX5) (T := TX5) (N := 11) (Y := (yX5_spreadHour, cX5_spreadHour, 5, none)) X hcal opsS_n md_X5_spreadHour rfl (by decide) rfl wc_X5_spreadHour wl_X5_71 wi_X5 wm_X5_spreadHour wv_X5_spreadHour (by decide +kernel) (hRm 5 (by decide)) (by decide +kernel) rfl) (
    okc (ok_vret hret (by decide +kernel)) (
    okc (ok_aload_n (j := 0) X (by decide +kernel) rfl rfl) (
    okc (ok_getR (ci := 5) (kf := 1) (idx := 26) (C := RX5) (T := TX5) (N := 11) X rfl (by decide) inX5 (by decide) wf_X5_26 (fun _ _ _ => rfl) (by decide +kernel) rfl) (
    okc (ok_aload_n (j := 0) X (by decide +kernel) rfl rfl) (
    okc (ok_getR (ci := 5) (kf := 3) (idx := 12) (C := RX5) (T := TX5) (N := 11) X rfl (by decide) inX5 (by decide) wf_X5_12 (fun _ _ _ => rfl) (by decide +kernel) rfl) (
    okc (ok_iload_n (j := 2) X (by decide +kernel) rfl rfl) (
    okc (ok_iload_n (j := 1) X (by decide +kernel) rfl rfl) (
    okc (ok_callV (ci := 4) (C := RX4) (T := TX4) (N := 4) (Y := (yX4_knownNumber, cX4_knownNumber, 5, (some .int))) X hcal opsS_n md_X4_knownNumber rfl (by decide) rfl wc_X4_knownNumber wl_X5_93 wi_X4 wm_X4_knownNumber wv_X4_knownNumber (by decide +kernel) (hRm 5 (by decide)) (by decide +kernel) rfl) (
    okc (ok_istore X (by decide +kernel) rfl) (
    okc (ok_iload X (by decide +kernel) rfl) (
    okc (ok_bipush (n := 12) X (by decide +kernel) rfl rfl) (
    okc (ok_cge (off := 19) X (by decide +kernel) (by decide) rfl) (
    okc (ok_aload_n (j := 0) X (by decide +kernel) rfl rfl) (
    okc (ok_iload_n (j := 1) X (by decide +kernel) rfl rfl) (
    okc (ok_iload_n (j := 2) X (by decide +kernel) rfl rfl) (
    okc (ok_iconst (n := 1) X (by decide +kernel) rfl rfl) (
    okc (ok_iadd X (by decide +kernel) rfl) (
    okc (ok_lload_n (j := 3) X (by decide +kernel) rfl rfl) (
    okc (ok_bipush (n := 12) X (by decide +kernel) rfl rfl) (
    okc (ok_iload X (by decide +kernel) rfl) (
    okc (ok_isub X (by decide +kernel) rfl) (
    okc (ok_i2l X (by decide +kernel) rfl) (
    okc (ok_lmul X (by decide +kernel) rfl) (
    okc (ok_callV (ci := 5) (C := RX5) (T := TX5) (N := 11) (Y := (yX5_spreadPerson, cX5_spreadPerson, 7, none)) X hcal opsS_n md_X5_spreadPerson rfl (by decide) rfl wc_X5_spreadPerson wl_X5_84 wi_X5 wm_X5_spreadPerson wv_X5_spreadPerson (by decide +kernel) (hRm 7 (by decide)) (by decide +kernel) rfl) (
    okc (ok_iload X (by decide +kernel) rfl) (
    okc (ok_ifle (off := 44) X (by decide +kernel) (by decide) rfl) (
    okc (ok_aload_n (j := 0) X (by decide +kernel) rfl rfl) (
    okc (ok_getR (ci := 5) (kf := 2) (idx := 30) (C := RX5) (T := TX5) (N := 11) X rfl (by decide) inX5 (by decide) wf_X5_30 (fun _ _ _ => rfl) (by decide +kernel) rfl) (
    okc (ok_aload_n (j := 0) X (by decide +kernel) rfl rfl) (
    okc (ok_getR (ci := 5) (kf := 3) (idx := 12) (C := RX5) (T := TX5) (N := 11) X rfl (by decide) inX5 (by decide) wf_X5_12 (fun _ _ _ => rfl) (by decide +kernel) rfl) (
    okc (ok_iload_n (j := 2) X (by decide +kernel) rfl rfl) (
    okc (ok_callV (ci := 10) (C := RX10) (T := TX10) (N := 4) (Y := (yX10_fall, cX10_fall, 4, (some .int))) X hcal opsS_n md_X10_fall rfl (by decide) rfl wc_X10_fall wl_X5_97 wi_X10 wm_X10_fall wv_X10_fall (by decide +kernel) (hRm 4 (by decide)) (by decide +kernel) rfl) (
    okc (ok_istore X (by decide +kernel) rfl) (
    okc (ok_aload_n (j := 0) X (by decide +kernel) rfl rfl) (
    okc (ok_iload_n (j := 1) X (by decide +kernel) rfl rfl) (
    okc (ok_iload_n (j := 2) X (by decide +kernel) rfl rfl) (
    okc (ok_iconst (n := 1) X (by decide +kernel) rfl rfl) (
    okc (ok_iadd X (by decide +kernel) rfl) (
    okc (ok_lload_n (j := 3) X (by decide +kernel) rfl rfl) (
    okc (ok_iload X (by decide +kernel) rfl) (
    okc (ok_i2l X (by decide +kernel) rfl) (
    okc (ok_lmul X (by decide +kernel) rfl) (
    okc (ok_callV (ci := 5) (C := RX5) (T := TX5) (N := 11) (Y := (yX5_spreadPerson, cX5_spreadPerson, 7, none)) X hcal opsS_n md_X5_spreadPerson rfl (by decide) rfl wc_X5_spreadPerson wl_X5_84 wi_X5 wm_X5_spreadPerson wv_X5_spreadPerson (by decide +kernel) (hRm 7 (by decide)) (by decide +kernel) rfl) (
    okc (ok_aload_n (j := 0) X (by decide +kernel) rfl rfl) (
    okc (ok_getR (ci := 5) (kf := 2) (idx := 30) (C := RX5) (T := TX5) (N := 11) X rfl (by decide) inX5 (by decide) wf_X5_30 (fun _ _ _ => rfl) (by decide +kernel) rfl) (
    okc (ok_aload_n (j := 0) X (by decide +kernel) rfl rfl) (
    okc (ok_getR (ci := 5) (kf := 3) (idx := 12) (C := RX5) (T := TX5) (N := 11) X rfl (by decide) inX5 (by decide) wf_X5_12 (fun _ _ _ => rfl) (by decide +kernel) rfl) (
    okc (ok_iload_n (j := 2) X (by decide +kernel) rfl rfl) (
    okc (ok_iload X (by decide +kernel) rfl) (
    okc (ok_callV (ci := 10) (C := RX10) (T := TX10) (N := 4) (Y := (yX10_unfall, cX10_unfall, 4, none)) X hcal opsS_n md_X10_unfall rfl (by decide) rfl wc_X10_unfall wl_X5_101 wi_X10 wm_X10_unfall wv_X10_unfall (by decide +kernel) (hRm 4 (by decide)) (by decide +kernel) rfl) (
    okc (ok_vret hret (by decide +kernel)) (
    okn))))))))))))))))))))))))))))))))))))))))))))))))))))))))))))))
noncomputable def es_X5_spreadPerson (rc : Nat → Int32 → Int32 → Int64 → SS → Option SS) : List (Nat × En) := [(38, en_X5_spreadHour rc), (32, en_X4_knownNumber), (39, en_X5_spreadPerson rc), (94, en_X10_fall), (95, en_X10_unfall)]
set_option maxRecDepth 100000 in
set_option maxHeartbeats 4000000 in
theorem eq_X5_spreadPerson (rc : Nat → Int32 → Int32 → Int64 → SS → Option SS)  (a0 : Int32) (a1 : Int32) (a2 : Int64) (s : SS) : ex (tb_X5_spreadPerson (calE (es_X5_spreadPerson rc))) rV [] (fun _ _ _ _ => none) 64 0 [some (.ref 34), some (.int a0), some (.int a1), some (.long a2), none, none, none] [] s = f_X5_spreadPerson rc a0 a1 a2 s := by
  rfl
set_option maxRecDepth 100000 in
set_option maxHeartbeats 4000000 in
theorem run_X5_spreadPerson {l : Launch} {G : Gm} {rc : Nat → Int32 → Int32 → Int64 → SS → Option SS}  (a0 : Int32) (a1 : Int32) (a2 : Int64) (s : SS) (q : SS) (h : f_X5_spreadPerson rc a0 a1 a2 s = some q) (D' : Nat) (hD : 4 ≤ D') (hrc : rc_X5R l G D' rc) : RunsM l G (D' + 1) (md 39) (embS s) [.ref 34, .int a0, .int a1, .long a2] none (embS q) := by
  rw [md_X5_spreadPerson]
  refine runs_V (plainFor_of_name (by decide +kernel)) (Nat.le_of_ble_eq_true rfl) rfl ?_
  intro A p e R s0 m args below meth c Q ad0 hR X hret
  have X : Cx G A RX5 cX5_spreadPerson 7 p s0 m args c := X
  have hT := tk_X5_spreadPerson X (calE_ok (es := es_X5_spreadPerson rc) (enc (en_X5_spreadHour_ok hrc) (enc (en_X4_knownNumber_ok _ (by omega)) (enc (en_X5_spreadPerson_ok hrc) (enc (en_X10_fall_ok _ (by omega)) (enc (en_X10_unfall_ok _ (by omega)) (enn))))))) (rmD rfl hR) hret
  rw [← eq_X5_spreadPerson rc  a0 a1 a2 s] at h
  refine ex_good hT (fun pc' ls' st' x' hh => ?_) 64 0 _ [] s h
  cases hh


set_option maxRecDepth 100000 in
set_option maxHeartbeats 4000000 in
theorem g_X5R_ok {l : Launch} {G : Gm} : ∀ (n D : Nat), 5 + n ≤ D → rc_X5R l G D (g_X5R n) := by
  intro n
  induction n with
  | zero =>
    intro D hD
    exact ⟨fun a0 a1 s q h => absurd (show (none : Option SS) = some q from h) (by simp), fun a0 a1 a2 s q h => absurd (show (none : Option SS) = some q from h) (by simp)⟩
  | succ n ih =>
    intro D hD
    obtain ⟨D', rfl⟩ : ∃ D', D = D' + 1 := ⟨D - 1, by omega⟩
    have hrc := ih D' (by omega)
    exact ⟨fun a0 a1 s q h => run_X5_spreadHour (rc := g_X5R n) a0 a1 s q h D' (by omega) hrc, fun a0 a1 a2 s q h => run_X5_spreadPerson (rc := g_X5R n) a0 a1 a2 s q h D' (by omega) hrc⟩
/-! HatRank$Odds spread -/
noncomputable def tb_X5_spread (cal : Cal SS) : List (Nat × Ins SS) := [(0, e_aload 0 1), (1, e_getR opsS 5 3 4), (4, e_aload 1 5), (5, e_callV opsS cal 18 1 2 8), (8, e_aload 0 9), (9, e_getR opsS 5 3 12), (12, e_getR opsS 2 1 15), (15, e_iload 2 16), (16, e_iload 3 17), (17, e_ast opsS 100 (fun v => v) 18), (18, e_aload 0 19), (19, e_iload 2 20), (20, e_putI opsS 5 5 23), (23, e_aload 0 24), (24, e_aload 1 25), (25, e_getI opsS 2 3 28), (28, e_putI opsS 5 6 31), (31, e_aload 0 32), (32, e_aload 1 33), (33, e_getI opsS 2 3 36), (36, e_iload 4 38), (38, e_bin aAdd 39), (39, e_putI opsS 5 7 42), (42, e_aload 0 43), (43, e_lconst (0) 44), (44, e_putL opsS 5 8 47), (47, e_aload 0 48), (48, e_lconst (0) 49), (49, e_putL opsS 5 9 52), (52, e_aload 0 53), (53, e_lconst (0) 54), (54, e_putL opsS 5 10 57), (57, e_aload 0 58), (58, e_getR opsS 5 1 61), (61, e_iconst (0) 62), (62, e_callV opsS cal 31 1 4 65), (65, e_aload 0 66), (66, e_aload 0 67), (67, e_getI opsS 5 6 70), (70, e_lconst (1) 71), (71, e_callV opsS cal 38 2 5 74), (74, e_vret)]
set_option maxRecDepth 100000 in
set_option maxHeartbeats 4000000 in
theorem tk_X5_spread {ad0 : Nat → Nat} {G : Gm} {A : Nat → Prop} {p : Program} {l : Launch} {e : Env} {R : Room} {s0 : State} {m : MethodId} {args : Array Value} {below : List Frame} {meth : Method} {c : Code} {Q : State → Prop} {ρ : Type} {ret : Option Value → SS → Option ρ} {r : ρ} (X : Cx G A RX5 cX5_spread 5 p s0 m args c) {D' : Nat} {cal : Cal SS} (hcal : calOK l G opsS D' cal) (hRm : ∀ k, k ≤ 21 → D' + 1 ≤ R.frames ∧ 8 + (k + 11) + 40 * D' ≤ R.locals) (hret : RetK G A cX5_spread 113 6344 ad0 p l e R s0 m args below meth c Q opsS ret r .return_ okV) : ∀ q ∈ tb_X5_spread cal, OKi G A 5 113 6344 ad0 p l e R s0 m args below meth c Q opsS ret r q.1 q.2 :=
    okc (ok_aload_n (j := 0) X (by decide +kernel) rfl rfl) (
    okc (ok_getR (ci := 5) (kf := 3) (idx := 12) (C := RX5) (T := TX5) (N := 11) X rfl (by decide) inX5 (by decide) wf_X5_12 (fun _ _ _ => rfl) (by decide +kernel) rfl) (
    okc (ok_aload_n (j := 1) X (by decide +kernel) rfl rfl) (
    okc (ok_callV (ci := 2) (C := RX2) (T := TX2) (N := 4) (Y := (yX2_become, cX2_become, 2, none)) X hcal opsS_n md_X2_become rfl (by decide) rfl wc_X2_become wl_X5_34 wi_X2 wm_X2_become wv_X2_become (by decide +kernel) (hRm 2 (by decide)) (by decide +kernel) rfl) (
    okc (ok_aload_n (j := 0) X (by decide +kernel) rfl rfl) (
    okc (ok_getR (ci := 5) (kf := 3) (idx := 12) (C := RX5) (T := TX5) (N := 11) X rfl (by decide) inX5 (by decide) wf_X5_12 (fun _ _ _ => rfl) (by decide +kernel) rfl) (
    okc (ok_getR (ci := 2) (kf := 1) (idx := 38) (C := RX2) (T := TX2) (N := 4) X rfl (by decide) inX2 (by decide) wf_X5_38 (fun _ _ _ => rfl) (by decide +kernel) rfl) (
    okc (ok_iload_n (j := 2) X (by decide +kernel) rfl rfl) (
    okc (ok_iload_n (j := 3) X (by decide +kernel) rfl rfl) (
    okc (ok_iast X opsS_ok (by decide +kernel) rfl) (
    okc (ok_aload_n (j := 0) X (by decide +kernel) rfl rfl) (
    okc (ok_iload_n (j := 2) X (by decide +kernel) rfl rfl) (
    okc (ok_putI (ci := 5) (kf := 5) (idx := 42) (C := RX5) (T := TX5) (N := 11) X opsS_ok rfl (by decide) inX5 tyX5_ok nmX5 (by decide) wf_X5_42 rfl (fun _ _ _ => rfl) (by decide +kernel) (by decide +kernel) rfl) (
    okc (ok_aload_n (j := 0) X (by decide +kernel) rfl rfl) (
    okc (ok_aload_n (j := 1) X (by decide +kernel) rfl rfl) (
    okc (ok_getI (ci := 2) (kf := 3) (idx := 46) (C := RX2) (T := TX2) (N := 4) X rfl (by decide) inX2 (by decide) wf_X5_46 (fun _ _ _ => rfl) (by decide +kernel) rfl) (
    okc (ok_putI (ci := 5) (kf := 6) (idx := 49) (C := RX5) (T := TX5) (N := 11) X opsS_ok rfl (by decide) inX5 tyX5_ok nmX5 (by decide) wf_X5_49 rfl (fun _ _ _ => rfl) (by decide +kernel) (by decide +kernel) rfl) (
    okc (ok_aload_n (j := 0) X (by decide +kernel) rfl rfl) (
    okc (ok_aload_n (j := 1) X (by decide +kernel) rfl rfl) (
    okc (ok_getI (ci := 2) (kf := 3) (idx := 46) (C := RX2) (T := TX2) (N := 4) X rfl (by decide) inX2 (by decide) wf_X5_46 (fun _ _ _ => rfl) (by decide +kernel) rfl) (
    okc (ok_iload X (by decide +kernel) rfl) (
    okc (ok_iadd X (by decide +kernel) rfl) (
    okc (ok_putI (ci := 5) (kf := 7) (idx := 52) (C := RX5) (T := TX5) (N := 11) X opsS_ok rfl (by decide) inX5 tyX5_ok nmX5 (by decide) wf_X5_52 rfl (fun _ _ _ => rfl) (by decide +kernel) (by decide +kernel) rfl) (
    okc (ok_aload_n (j := 0) X (by decide +kernel) rfl rfl) (
    okc (ok_lconst (n := 0) X (by decide +kernel) rfl rfl) (
    okc (ok_putL (ci := 5) (kf := 8) (idx := 55) (C := RX5) (T := TX5) (N := 11) X opsS_ok rfl (by decide) inX5 tyX5_ok nmX5 (by decide) wf_X5_55 rfl (fun _ _ _ => rfl) (by decide +kernel) (by decide +kernel) rfl) (
    okc (ok_aload_n (j := 0) X (by decide +kernel) rfl rfl) (
    okc (ok_lconst (n := 0) X (by decide +kernel) rfl rfl) (
    okc (ok_putL (ci := 5) (kf := 9) (idx := 59) (C := RX5) (T := TX5) (N := 11) X opsS_ok rfl (by decide) inX5 tyX5_ok nmX5 (by decide) wf_X5_59 rfl (fun _ _ _ => rfl) (by decide +kernel) (by decide +kernel) rfl) (
    okc (ok_aload_n (j := 0) X (by decide +kernel) rfl rfl) (
    okc (ok_lconst (n := 0) X (by decide +kernel) rfl rfl) (
    okc (ok_putL (ci := 5) (kf := 10) (idx := 62) (C := RX5) (T := TX5) (N := 11) X opsS_ok rfl (by decide) inX5 tyX5_ok nmX5 (by decide) wf_X5_62 rfl (fun _ _ _ => rfl) (by decide +kernel) (by decide +kernel) rfl) (
    okc (ok_aload_n (j := 0) X (by decide +kernel) rfl rfl) (
    okc (ok_getR (ci := 5) (kf := 1) (idx := 26) (C := RX5) (T := TX5) (N := 11) X rfl (by decide) inX5 (by decide) wf_X5_26 (fun _ _ _ => rfl) (by decide +kernel) rfl) (
    okc (ok_iconst (n := 0) X (by decide +kernel) rfl rfl) (
    okc (ok_callV (ci := 4) (C := RX4) (T := TX4) (N := 4) (Y := (yX4_begin, cX4_begin, 2, none)) X hcal opsS_n md_X4_begin rfl (by decide) rfl wc_X4_begin wl_X5_65 wi_X4 wm_X4_begin wv_X4_begin (by decide +kernel) (hRm 2 (by decide)) (by decide +kernel) rfl) (
    okc (ok_aload_n (j := 0) X (by decide +kernel) rfl rfl) (
    okc (ok_aload_n (j := 0) X (by decide +kernel) rfl rfl) (
    okc (ok_getI (ci := 5) (kf := 6) (idx := 49) (C := RX5) (T := TX5) (N := 11) X rfl (by decide) inX5 (by decide) wf_X5_49 (fun _ _ _ => rfl) (by decide +kernel) rfl) (
    okc (ok_lconst (n := 1) X (by decide +kernel) rfl rfl) (
    okc (ok_callV (ci := 5) (C := RX5) (T := TX5) (N := 11) (Y := (yX5_spreadHour, cX5_spreadHour, 5, none)) X hcal opsS_n md_X5_spreadHour rfl (by decide) rfl wc_X5_spreadHour wl_X5_71 wi_X5 wm_X5_spreadHour wv_X5_spreadHour (by decide +kernel) (hRm 5 (by decide)) (by decide +kernel) rfl) (
    okc (ok_vret hret (by decide +kernel)) (
    okn))))))))))))))))))))))))))))))))))))))))))
noncomputable def es_X5_spread  : List (Nat × En) := [(18, en_X2_become), (31, en_X4_begin), (38, en_X5_spreadHour (g_X5R fuelR))]
set_option maxRecDepth 100000 in
set_option maxHeartbeats 4000000 in
theorem eq_X5_spread (d : Nat) (hd : (Nat.beq d 7) = true) (a0 : Int32) (a1 : Int32) (a2 : Int32) (s : SS) : ex (tb_X5_spread (calE (es_X5_spread))) rV [] (fun _ _ _ _ => none) 44 0 [some (.ref 34), some (.ref d), some (.int a0), some (.int a1), some (.int a2)] [] s = f_X5_spread d a0 a1 a2 s := by
  rcases beq1 hd with rfl <;> rfl
set_option maxRecDepth 100000 in
set_option maxHeartbeats 4000000 in
theorem run_X5_spread {l : Launch} {G : Gm} {d : Nat} (hd : (Nat.beq d 7) = true) (a0 : Int32) (a1 : Int32) (a2 : Int32) (s : SS) (q : SS) (h : f_X5_spread d a0 a1 a2 s = some q) (D' : Nat) (hD : 105 ≤ D') : RunsM l G (D' + 1) (md 37) (embS s) [.ref 34, .ref d, .int a0, .int a1, .int a2] none (embS q) := by
  rw [md_X5_spread]
  refine runs_V (plainFor_of_name (by decide +kernel)) (Nat.le_of_ble_eq_true rfl) rfl ?_
  intro A p e R s0 m args below meth c Q ad0 hR X hret
  have X : Cx G A RX5 cX5_spread 5 p s0 m args c := X
  have hT := tk_X5_spread X (calE_ok (es := es_X5_spread) (enc (en_X2_become_ok _ (by omega)) (enc (en_X4_begin_ok _ (by omega)) (enc (en_X5_spreadHour_ok (g_X5R_ok _ _ (by rw [fuelR_eq]; omega))) (enn))))) (rmD rfl hR) hret
  rw [← eq_X5_spread d hd a0 a1 a2 s] at h
  refine ex_good hT (fun pc' ls' st' x' hh => ?_) 44 0 _ [] s h
  cases hh

noncomputable def en_X5_spread  : En := fun _ av s k => match av with
  | [.ref r0, .ref d, .int a0, .int a1, .int a2] => (gd (Nat.beq r0 34) (gd (Nat.beq d 7) (bV (f_X5_spread d a0 a1 a2 s) k)))
  | _ => none
set_option maxRecDepth 100000 in
set_option maxHeartbeats 4000000 in
theorem en_X5_spread_ok {l : Launch} {G : Gm} (D : Nat) (hD : 106 ≤ D) : enOK l G D 37 en_X5_spread := by
  intro ρ av x k r h
  unfold en_X5_spread at h
  split at h
  · obtain ⟨g0, h⟩ := gd_some h
    obtain ⟨g1, h⟩ := gd_some h
    obtain ⟨q, h1, h2⟩ := bind_of h
    have e0 := beq1 g0
    subst e0
    obtain ⟨D', rfl⟩ : ∃ D', D = D' + 1 := ⟨D - 1, by omega⟩
    exact ⟨_, _, h2, run_X5_spread g1 _ _ _ _ _ h1 D' (by omega)⟩
  · cases h

