/-! HatRank$Tape formula -/
noncomputable def tb_X8_formula (cal : Cal SS) : List (Nat × Ins SS) := [(0, e_aload 0 1), (1, e_getR opsS 8 3 4), (4, e_aret)]
set_option maxRecDepth 100000 in
set_option maxHeartbeats 4000000 in
theorem tk_X8_formula {ad0 : Nat → Nat} {G : Gm} {A : Nat → Prop} {p : Program} {l : Launch} {e : Env} {R : Room} {s0 : State} {m : MethodId} {args : Array Value} {below : List Frame} {meth : Method} {c : Code} {Q : State → Prop} {ρ : Type} {ret : Option Value → SS → Option ρ} {r : ρ} (X : Cx G A RX8 cX8_formula 1 p s0 m args c) {D' : Nat} {cal : Cal SS} (hcal : calOK l G opsS D' cal) (hRm : ∀ k, k ≤ 21 → D' + 1 ≤ R.frames ∧ 8 + (k + 11) + 40 * D' ≤ R.locals) (hret : RetK G A cX8_formula 113 6344 ad0 p l e R s0 m args below meth c Q opsS ret r .areturn okA) : ∀ q ∈ tb_X8_formula cal, OKi G A 1 113 6344 ad0 p l e R s0 m args below meth c Q opsS ret r q.1 q.2 :=
    okc (ok_aload_n (j := 0) X (by decide +kernel) rfl rfl) (
    okc (ok_getR (ci := 8) (kf := 3) (idx := 18) (C := RX8) (T := TX8) (N := 5) X rfl (by decide) inX8 (by decide) wf_X8_18 (fun _ _ _ => rfl) (by decide +kernel) rfl) (
    okc (ok_aret hret (by decide +kernel)) (
    okn)))
noncomputable def es_X8_formula  : List (Nat × En) := []
set_option maxRecDepth 100000 in
set_option maxHeartbeats 4000000 in
theorem eq_X8_formula    (s : SS) : ex (tb_X8_formula (calE (es_X8_formula))) rA [] (fun _ _ _ _ => none) 5 0 [some (.ref 11)] [] s = f_X8_formula  s := by
  rfl
set_option maxRecDepth 100000 in
set_option maxHeartbeats 4000000 in
theorem run_X8_formula {l : Launch} {G : Gm}    (s : SS) (q : (Nat × SS)) (h : f_X8_formula  s = some q) (D' : Nat) (hD : 0 ≤ D') : RunsM l G (D' + 1) (md 64) (embS s) [.ref 11] (some (.ref q.1)) (embS q.2) := by
  rw [md_X8_formula]
  refine runs_A (plainFor_of_name (by decide +kernel)) (Nat.le_of_ble_eq_true rfl) rfl ?_
  intro A p e R s0 m args below meth c Q ad0 hR X hret
  have X : Cx G A RX8 cX8_formula 1 p s0 m args c := X
  have hT := tk_X8_formula X (calE_ok (es := es_X8_formula) (enn)) (rmD rfl hR) hret
  rw [← eq_X8_formula    s] at h
  refine ex_good hT (fun pc' ls' st' x' hh => ?_) 5 0 _ [] s h
  cases hh

noncomputable def en_X8_formula  : En := fun _ av s k => match av with
  | [.ref r0] => (gd (Nat.beq r0 11) (bA (f_X8_formula  s) k))
  | _ => none
set_option maxRecDepth 100000 in
set_option maxHeartbeats 4000000 in
theorem en_X8_formula_ok {l : Launch} {G : Gm} (D : Nat) (hD : 1 ≤ D) : enOK l G D 64 en_X8_formula := by
  intro ρ av x k r h
  unfold en_X8_formula at h
  split at h
  · obtain ⟨g0, h⟩ := gd_some h
    obtain ⟨q, h1, h2⟩ := bind_of h
    have e0 := beq1 g0
    subst e0
    obtain ⟨D', rfl⟩ : ∃ D', D = D' + 1 := ⟨D - 1, by omega⟩
    exact ⟨_, _, h2, run_X8_formula   _ _ h1 D' (by omega)⟩
  · cases h

/-! HatRank$Tape take -/
noncomputable def tb_X8_take (cal : Cal SS) : List (Nat × Ins SS) := [(0, e_aload 0 1), (1, e_getI opsS 8 0 4), (4, e_iconst (120) 6), (6, e_clt 12 9), (9, e_iconst (-3) 11), (11, e_iret), (12, e_aload 0 13), (13, e_getR opsS 8 1 16), (16, e_aload 0 17), (17, e_getI opsS 8 0 20), (20, e_iload 1 21), (21, e_ast opsS 100 (fun v => v) 22), (22, e_aload 0 23), (23, e_dup 24), (24, e_getI opsS 8 0 27), (27, e_iconst (1) 28), (28, e_bin aAdd 29), (29, e_putI opsS 8 0 32), (32, e_aload 0 33), (33, e_getI opsS 8 0 36), (36, e_iret)]
set_option maxRecDepth 100000 in
set_option maxHeartbeats 4000000 in
theorem tk_X8_take {ad0 : Nat → Nat} {G : Gm} {A : Nat → Prop} {p : Program} {l : Launch} {e : Env} {R : Room} {s0 : State} {m : MethodId} {args : Array Value} {below : List Frame} {meth : Method} {c : Code} {Q : State → Prop} {ρ : Type} {ret : Option Value → SS → Option ρ} {r : ρ} (X : Cx G A RX8 cX8_take 2 p s0 m args c) {D' : Nat} {cal : Cal SS} (hcal : calOK l G opsS D' cal) (hRm : ∀ k, k ≤ 21 → D' + 1 ≤ R.frames ∧ 8 + (k + 11) + 40 * D' ≤ R.locals) (hret : RetK G A cX8_take 113 6344 ad0 p l e R s0 m args below meth c Q opsS ret r .ireturn okI) : ∀ q ∈ tb_X8_take cal, OKi G A 2 113 6344 ad0 p l e R s0 m args below meth c Q opsS ret r q.1 q.2 :=
    okc (ok_aload_n (j := 0) X (by decide +kernel) rfl rfl) (
    okc (ok_getI (ci := 8) (kf := 0) (idx := 25) (C := RX8) (T := TX8) (N := 5) X rfl (by decide) inX8 (by decide) wf_X8_25 (fun _ _ _ => rfl) (by decide +kernel) rfl) (
    okc (ok_bipush (n := 120) X (by decide +kernel) rfl rfl) (
    okc (ok_clt (off := 6) X (by decide +kernel) (by decide) rfl) (
    okc (ok_bipush (n := -3) X (by decide +kernel) rfl rfl) (
    okc (ok_iret hret (by decide +kernel)) (
    okc (ok_aload_n (j := 0) X (by decide +kernel) rfl rfl) (
    okc (ok_getR (ci := 8) (kf := 1) (idx := 9) (C := RX8) (T := TX8) (N := 5) X rfl (by decide) inX8 (by decide) wf_X8_9 (fun _ _ _ => rfl) (by decide +kernel) rfl) (
    okc (ok_aload_n (j := 0) X (by decide +kernel) rfl rfl) (
    okc (ok_getI (ci := 8) (kf := 0) (idx := 25) (C := RX8) (T := TX8) (N := 5) X rfl (by decide) inX8 (by decide) wf_X8_25 (fun _ _ _ => rfl) (by decide +kernel) rfl) (
    okc (ok_iload_n (j := 1) X (by decide +kernel) rfl rfl) (
    okc (ok_iast X opsS_ok (by decide +kernel) rfl) (
    okc (ok_aload_n (j := 0) X (by decide +kernel) rfl rfl) (
    okc (ok_dup X (by decide +kernel) rfl) (
    okc (ok_getI (ci := 8) (kf := 0) (idx := 25) (C := RX8) (T := TX8) (N := 5) X rfl (by decide) inX8 (by decide) wf_X8_25 (fun _ _ _ => rfl) (by decide +kernel) rfl) (
    okc (ok_iconst (n := 1) X (by decide +kernel) rfl rfl) (
    okc (ok_iadd X (by decide +kernel) rfl) (
    okc (ok_putI (ci := 8) (kf := 0) (idx := 25) (C := RX8) (T := TX8) (N := 5) X opsS_ok rfl (by decide) inX8 tyX8_ok nmX8 (by decide) wf_X8_25 rfl (fun _ _ _ => rfl) (by decide +kernel) (by decide +kernel) rfl) (
    okc (ok_aload_n (j := 0) X (by decide +kernel) rfl rfl) (
    okc (ok_getI (ci := 8) (kf := 0) (idx := 25) (C := RX8) (T := TX8) (N := 5) X rfl (by decide) inX8 (by decide) wf_X8_25 (fun _ _ _ => rfl) (by decide +kernel) rfl) (
    okc (ok_iret hret (by decide +kernel)) (
    okn)))))))))))))))))))))
noncomputable def es_X8_take  : List (Nat × En) := []
set_option maxRecDepth 100000 in
set_option maxHeartbeats 4000000 in
theorem eq_X8_take   (a0 : Int32) (s : SS) : ex (tb_X8_take (calE (es_X8_take))) rI [] (fun _ _ _ _ => none) 23 0 [some (.ref 11), some (.int a0)] [] s = f_X8_take a0 s := by
  rfl
set_option maxRecDepth 100000 in
set_option maxHeartbeats 4000000 in
theorem run_X8_take {l : Launch} {G : Gm}   (a0 : Int32) (s : SS) (q : (Int32 × SS)) (h : f_X8_take a0 s = some q) (D' : Nat) (hD : 0 ≤ D') : RunsM l G (D' + 1) (md 65) (embS s) [.ref 11, .int a0] (some (.int q.1)) (embS q.2) := by
  rw [md_X8_take]
  refine runs_I (plainFor_of_name (by decide +kernel)) (Nat.le_of_ble_eq_true rfl) rfl ?_
  intro A p e R s0 m args below meth c Q ad0 hR X hret
  have X : Cx G A RX8 cX8_take 2 p s0 m args c := X
  have hT := tk_X8_take X (calE_ok (es := es_X8_take) (enn)) (rmD rfl hR) hret
  rw [← eq_X8_take   a0 s] at h
  refine ex_good hT (fun pc' ls' st' x' hh => ?_) 23 0 _ [] s h
  cases hh

noncomputable def en_X8_take  : En := fun _ av s k => match av with
  | [.ref r0, .int a0] => (gd (Nat.beq r0 11) (bI (f_X8_take a0 s) k))
  | _ => none
set_option maxRecDepth 100000 in
set_option maxHeartbeats 4000000 in
theorem en_X8_take_ok {l : Launch} {G : Gm} (D : Nat) (hD : 1 ≤ D) : enOK l G D 65 en_X8_take := by
  intro ρ av x k r h
  unfold en_X8_take at h
  split at h
  · obtain ⟨g0, h⟩ := gd_some h
    obtain ⟨q, h1, h2⟩ := bind_of h
    have e0 := beq1 g0
    subst e0
    obtain ⟨D', rfl⟩ : ∃ D', D = D' + 1 := ⟨D - 1, by omega⟩
    exact ⟨_, _, h2, run_X8_take  _ _ _ h1 D' (by omega)⟩
  · cases h

/-! HatRank$Tape here -/
noncomputable def tb_X8_here (cal : Cal SS) : List (Nat × Ins SS) := [(0, e_aload 0 1), (1, e_getI opsS 8 2 4), (4, e_iflt 30 7), (7, e_aload 0 8), (8, e_getI opsS 8 2 11), (11, e_aload 0 12), (12, e_getI opsS 8 0 15), (15, e_cge 30 18), (18, e_aload 0 19), (19, e_getR opsS 8 1 22), (22, e_aload 0 23), (23, e_getI opsS 8 2 26), (26, e_ald opsS 100 27), (27, e_goto 31), (30, e_iconst (-1) 31), (31, e_iret)]
set_option maxRecDepth 100000 in
set_option maxHeartbeats 4000000 in
theorem tk_X8_here {ad0 : Nat → Nat} {G : Gm} {A : Nat → Prop} {p : Program} {l : Launch} {e : Env} {R : Room} {s0 : State} {m : MethodId} {args : Array Value} {below : List Frame} {meth : Method} {c : Code} {Q : State → Prop} {ρ : Type} {ret : Option Value → SS → Option ρ} {r : ρ} (X : Cx G A RX8 cX8_here 1 p s0 m args c) {D' : Nat} {cal : Cal SS} (hcal : calOK l G opsS D' cal) (hRm : ∀ k, k ≤ 21 → D' + 1 ≤ R.frames ∧ 8 + (k + 11) + 40 * D' ≤ R.locals) (hret : RetK G A cX8_here 113 6344 ad0 p l e R s0 m args below meth c Q opsS ret r .ireturn okI) : ∀ q ∈ tb_X8_here cal, OKi G A 1 113 6344 ad0 p l e R s0 m args below meth c Q opsS ret r q.1 q.2 :=
    okc (ok_aload_n (j := 0) X (by decide +kernel) rfl rfl) (
    okc (ok_getI (ci := 8) (kf := 2) (idx := 29) (C := RX8) (T := TX8) (N := 5) X rfl (by decide) inX8 (by decide) wf_X8_29 (fun _ _ _ => rfl) (by decide +kernel) rfl) (
    okc (ok_iflt (off := 26) X (by decide +kernel) (by decide) rfl) (
    okc (ok_aload_n (j := 0) X (by decide +kernel) rfl rfl) (
    okc (ok_getI (ci := 8) (kf := 2) (idx := 29) (C := RX8) (T := TX8) (N := 5) X rfl (by decide) inX8 (by decide) wf_X8_29 (fun _ _ _ => rfl) (by decide +kernel) rfl) (
    okc (ok_aload_n (j := 0) X (by decide +kernel) rfl rfl) (
    okc (ok_getI (ci := 8) (kf := 0) (idx := 25) (C := RX8) (T := TX8) (N := 5) X rfl (by decide) inX8 (by decide) wf_X8_25 (fun _ _ _ => rfl) (by decide +kernel) rfl) (
    okc (ok_cge (off := 15) X (by decide +kernel) (by decide) rfl) (
    okc (ok_aload_n (j := 0) X (by decide +kernel) rfl rfl) (
    okc (ok_getR (ci := 8) (kf := 1) (idx := 9) (C := RX8) (T := TX8) (N := 5) X rfl (by decide) inX8 (by decide) wf_X8_9 (fun _ _ _ => rfl) (by decide +kernel) rfl) (
    okc (ok_aload_n (j := 0) X (by decide +kernel) rfl rfl) (
    okc (ok_getI (ci := 8) (kf := 2) (idx := 29) (C := RX8) (T := TX8) (N := 5) X rfl (by decide) inX8 (by decide) wf_X8_29 (fun _ _ _ => rfl) (by decide +kernel) rfl) (
    okc (ok_iald X (by decide +kernel) rfl) (
    okc (ok_goto (off := 4) X (by decide +kernel) (by decide)) (
    okc (ok_iconst (n := -1) X (by decide +kernel) rfl rfl) (
    okc (ok_iret hret (by decide +kernel)) (
    okn))))))))))))))))
noncomputable def es_X8_here  : List (Nat × En) := []
set_option maxRecDepth 100000 in
set_option maxHeartbeats 4000000 in
theorem eq_X8_here    (s : SS) : ex (tb_X8_here (calE (es_X8_here))) rI [] (fun _ _ _ _ => none) 18 0 [some (.ref 11)] [] s = f_X8_here  s := by
  rfl
set_option maxRecDepth 100000 in
set_option maxHeartbeats 4000000 in
theorem run_X8_here {l : Launch} {G : Gm}    (s : SS) (q : (Int32 × SS)) (h : f_X8_here  s = some q) (D' : Nat) (hD : 0 ≤ D') : RunsM l G (D' + 1) (md 67) (embS s) [.ref 11] (some (.int q.1)) (embS q.2) := by
  rw [md_X8_here]
  refine runs_I (plainFor_of_name (by decide +kernel)) (Nat.le_of_ble_eq_true rfl) rfl ?_
  intro A p e R s0 m args below meth c Q ad0 hR X hret
  have X : Cx G A RX8 cX8_here 1 p s0 m args c := X
  have hT := tk_X8_here X (calE_ok (es := es_X8_here) (enn)) (rmD rfl hR) hret
  rw [← eq_X8_here    s] at h
  refine ex_good hT (fun pc' ls' st' x' hh => ?_) 18 0 _ [] s h
  cases hh

noncomputable def en_X8_here  : En := fun _ av s k => match av with
  | [.ref r0] => (gd (Nat.beq r0 11) (bI (f_X8_here  s) k))
  | _ => none
set_option maxRecDepth 100000 in
set_option maxHeartbeats 4000000 in
theorem en_X8_here_ok {l : Launch} {G : Gm} (D : Nat) (hD : 1 ≤ D) : enOK l G D 67 en_X8_here := by
  intro ρ av x k r h
  unfold en_X8_here at h
  split at h
  · obtain ⟨g0, h⟩ := gd_some h
    obtain ⟨q, h1, h2⟩ := bind_of h
    have e0 := beq1 g0
    subst e0
    obtain ⟨D', rfl⟩ : ∃ D', D = D' + 1 := ⟨D - 1, by omega⟩
    exact ⟨_, _, h2, run_X8_here   _ _ h1 D' (by omega)⟩
  · cases h

/-! HatRank$Tape joins -/
noncomputable def tb_X8_joins (cal : Cal SS) : List (Nat × Ins SS) := [(0, e_iload 0 1), (1, e_sw [(37, 135), (38, 102), (42, 135), (43, 124), (45, 124), (47, 135), (60, 113), (61, 113), (62, 113), (124, 92)] 146), (92, e_iload 1 93), (93, e_ifne 100 96), (96, e_iconst (1) 97), (97, e_goto 101), (100, e_iconst (0) 101), (101, e_zret), (102, e_iload 1 103), (103, e_iconst (1) 104), (104, e_cne 111 107), (107, e_iconst (1) 108), (108, e_goto 112), (111, e_iconst (0) 112), (112, e_zret), (113, e_iload 1 114), (114, e_iconst (2) 115), (115, e_cne 122 118), (118, e_iconst (1) 119), (119, e_goto 123), (122, e_iconst (0) 123), (123, e_zret), (124, e_iload 1 125), (125, e_iconst (3) 126), (126, e_cne 133 129), (129, e_iconst (1) 130), (130, e_goto 134), (133, e_iconst (0) 134), (134, e_zret), (135, e_iload 1 136), (136, e_iconst (4) 137), (137, e_cne 144 140), (140, e_iconst (1) 141), (141, e_goto 145), (144, e_iconst (0) 145), (145, e_zret), (146, e_iconst (0) 147), (147, e_zret)]
set_option maxRecDepth 100000 in
set_option maxHeartbeats 4000000 in
theorem tk_X8_joins {ad0 : Nat → Nat} {G : Gm} {A : Nat → Prop} {p : Program} {l : Launch} {e : Env} {R : Room} {s0 : State} {m : MethodId} {args : Array Value} {below : List Frame} {meth : Method} {c : Code} {Q : State → Prop} {ρ : Type} {ret : Option Value → SS → Option ρ} {r : ρ} (X : Cx G A RX8 cX8_joins 2 p s0 m args c) {D' : Nat} {cal : Cal SS} (hcal : calOK l G opsS D' cal) (hRm : ∀ k, k ≤ 21 → D' + 1 ≤ R.frames ∧ 8 + (k + 11) + 40 * D' ≤ R.locals) (hret : RetK G A cX8_joins 113 6344 ad0 p l e R s0 m args below meth c Q opsS ret r .ireturn okZ) : ∀ q ∈ tb_X8_joins cal, OKi G A 2 113 6344 ad0 p l e R s0 m args below meth c Q opsS ret r q.1 q.2 :=
    okc (ok_iload_n (j := 0) X (by decide +kernel) rfl rfl) (
    okc (ok_lsw (dflt := 145) (ps := #[(37, 134), (38, 101), (42, 134), (43, 123), (45, 123), (47, 134), (60, 112), (61, 112), (62, 112), (124, 91)]) (len := 91) X (by decide +kernel) (by decide +kernel) (lsw_ok 1 145 _ (by decide +kernel))) (
    okc (ok_iload_n (j := 1) X (by decide +kernel) rfl rfl) (
    okc (ok_ifne (off := 7) X (by decide +kernel) (by decide) rfl) (
    okc (ok_iconst (n := 1) X (by decide +kernel) rfl rfl) (
    okc (ok_goto (off := 4) X (by decide +kernel) (by decide)) (
    okc (ok_iconst (n := 0) X (by decide +kernel) rfl rfl) (
    okc (ok_zret hret (by decide +kernel)) (
    okc (ok_iload_n (j := 1) X (by decide +kernel) rfl rfl) (
    okc (ok_iconst (n := 1) X (by decide +kernel) rfl rfl) (
    okc (ok_cne (off := 7) X (by decide +kernel) (by decide) rfl) (
    okc (ok_iconst (n := 1) X (by decide +kernel) rfl rfl) (
    okc (ok_goto (off := 4) X (by decide +kernel) (by decide)) (
    okc (ok_iconst (n := 0) X (by decide +kernel) rfl rfl) (
    okc (ok_zret hret (by decide +kernel)) (
    okc (ok_iload_n (j := 1) X (by decide +kernel) rfl rfl) (
    okc (ok_iconst (n := 2) X (by decide +kernel) rfl rfl) (
    okc (ok_cne (off := 7) X (by decide +kernel) (by decide) rfl) (
    okc (ok_iconst (n := 1) X (by decide +kernel) rfl rfl) (
    okc (ok_goto (off := 4) X (by decide +kernel) (by decide)) (
    okc (ok_iconst (n := 0) X (by decide +kernel) rfl rfl) (
    okc (ok_zret hret (by decide +kernel)) (
    okc (ok_iload_n (j := 1) X (by decide +kernel) rfl rfl) (
    okc (ok_iconst (n := 3) X (by decide +kernel) rfl rfl) (
    okc (ok_cne (off := 7) X (by decide +kernel) (by decide) rfl) (
    okc (ok_iconst (n := 1) X (by decide +kernel) rfl rfl) (
    okc (ok_goto (off := 4) X (by decide +kernel) (by decide)) (
    okc (ok_iconst (n := 0) X (by decide +kernel) rfl rfl) (
    okc (ok_zret hret (by decide +kernel)) (
    okc (ok_iload_n (j := 1) X (by decide +kernel) rfl rfl) (
    okc (ok_iconst (n := 4) X (by decide +kernel) rfl rfl) (
    okc (ok_cne (off := 7) X (by decide +kernel) (by decide) rfl) (
    okc (ok_iconst (n := 1) X (by decide +kernel) rfl rfl) (
    okc (ok_goto (off := 4) X (by decide +kernel) (by decide)) (
    okc (ok_iconst (n := 0) X (by decide +kernel) rfl rfl) (
    okc (ok_zret hret (by decide +kernel)) (
    okc (ok_iconst (n := 0) X (by decide +kernel) rfl rfl) (
    okc (ok_zret hret (by decide +kernel)) (
    okn))))))))))))))))))))))))))))))))))))))
noncomputable def es_X8_joins  : List (Nat × En) := []
set_option maxRecDepth 100000 in
set_option maxHeartbeats 4000000 in
theorem eq_X8_joins   (a0 : Int32) (a1 : Int32) (s : SS) : ex (tb_X8_joins (calE (es_X8_joins))) rI [] (fun _ _ _ _ => none) 40 0 [some (.int a0), some (.int a1)] [] s = f_X8_joins a0 a1 s := by
  rfl
set_option maxRecDepth 100000 in
set_option maxHeartbeats 4000000 in
theorem run_X8_joins {l : Launch} {G : Gm}   (a0 : Int32) (a1 : Int32) (s : SS) (q : (Int32 × SS)) (h : f_X8_joins a0 a1 s = some q) (D' : Nat) (hD : 0 ≤ D') : RunsM l G (D' + 1) (md 71) (embS s) [.int a0, .int a1] (some (.int q.1)) (embS q.2) := by
  rw [md_X8_joins]
  refine runs_Z (plainFor_of_name (by decide +kernel)) (Nat.le_of_ble_eq_true rfl) rfl ?_
  intro A p e R s0 m args below meth c Q ad0 hR X hret
  have X : Cx G A RX8 cX8_joins 2 p s0 m args c := X
  have hT := tk_X8_joins X (calE_ok (es := es_X8_joins) (enn)) (rmD rfl hR) hret
  rw [← eq_X8_joins   a0 a1 s] at h
  refine ex_good hT (fun pc' ls' st' x' hh => ?_) 40 0 _ [] s h
  cases hh

noncomputable def en_X8_joins  : En := fun _ av s k => match av with
  | [.int a0, .int a1] => (bI (f_X8_joins a0 a1 s) k)
  | _ => none
set_option maxRecDepth 100000 in
set_option maxHeartbeats 4000000 in
theorem en_X8_joins_ok {l : Launch} {G : Gm} (D : Nat) (hD : 1 ≤ D) : enOK l G D 71 en_X8_joins := by
  intro ρ av x k r h
  unfold en_X8_joins at h
  split at h
  · obtain ⟨q, h1, h2⟩ := bind_of h
    obtain ⟨D', rfl⟩ : ∃ D', D = D' + 1 := ⟨D - 1, by omega⟩
    exact ⟨_, _, h2, run_X8_joins  _ _ _ _ h1 D' (by omega)⟩
  · cases h

/-! HatRank$Tape isDigit -/
noncomputable def tb_X8_isDigit (cal : Cal SS) : List (Nat × Ins SS) := [(0, e_iload 0 1), (1, e_iconst (48) 3), (3, e_clt 16 6), (6, e_iload 0 7), (7, e_iconst (57) 9), (9, e_cgt 16 12), (12, e_iconst (1) 13), (13, e_goto 17), (16, e_iconst (0) 17), (17, e_zret)]
set_option maxRecDepth 100000 in
set_option maxHeartbeats 4000000 in
theorem tk_X8_isDigit {ad0 : Nat → Nat} {G : Gm} {A : Nat → Prop} {p : Program} {l : Launch} {e : Env} {R : Room} {s0 : State} {m : MethodId} {args : Array Value} {below : List Frame} {meth : Method} {c : Code} {Q : State → Prop} {ρ : Type} {ret : Option Value → SS → Option ρ} {r : ρ} (X : Cx G A RX8 cX8_isDigit 1 p s0 m args c) {D' : Nat} {cal : Cal SS} (hcal : calOK l G opsS D' cal) (hRm : ∀ k, k ≤ 21 → D' + 1 ≤ R.frames ∧ 8 + (k + 11) + 40 * D' ≤ R.locals) (hret : RetK G A cX8_isDigit 113 6344 ad0 p l e R s0 m args below meth c Q opsS ret r .ireturn okZ) : ∀ q ∈ tb_X8_isDigit cal, OKi G A 1 113 6344 ad0 p l e R s0 m args below meth c Q opsS ret r q.1 q.2 :=
    okc (ok_iload_n (j := 0) X (by decide +kernel) rfl rfl) (
    okc (ok_bipush (n := 48) X (by decide +kernel) rfl rfl) (
    okc (ok_clt (off := 13) X (by decide +kernel) (by decide) rfl) (
    okc (ok_iload_n (j := 0) X (by decide +kernel) rfl rfl) (
    okc (ok_bipush (n := 57) X (by decide +kernel) rfl rfl) (
    okc (ok_cgt (off := 7) X (by decide +kernel) (by decide) rfl) (
    okc (ok_iconst (n := 1) X (by decide +kernel) rfl rfl) (
    okc (ok_goto (off := 4) X (by decide +kernel) (by decide)) (
    okc (ok_iconst (n := 0) X (by decide +kernel) rfl rfl) (
    okc (ok_zret hret (by decide +kernel)) (
    okn))))))))))
noncomputable def es_X8_isDigit  : List (Nat × En) := []
set_option maxRecDepth 100000 in
set_option maxHeartbeats 4000000 in
theorem eq_X8_isDigit   (a0 : Int32) (s : SS) : ex (tb_X8_isDigit (calE (es_X8_isDigit))) rI [] (fun _ _ _ _ => none) 12 0 [some (.int a0)] [] s = f_X8_isDigit a0 s := by
  rfl
set_option maxRecDepth 100000 in
set_option maxHeartbeats 4000000 in
theorem run_X8_isDigit {l : Launch} {G : Gm}   (a0 : Int32) (s : SS) (q : (Int32 × SS)) (h : f_X8_isDigit a0 s = some q) (D' : Nat) (hD : 0 ≤ D') : RunsM l G (D' + 1) (md 75) (embS s) [.int a0] (some (.int q.1)) (embS q.2) := by
  rw [md_X8_isDigit]
  refine runs_Z (plainFor_of_name (by decide +kernel)) (Nat.le_of_ble_eq_true rfl) rfl ?_
  intro A p e R s0 m args below meth c Q ad0 hR X hret
  have X : Cx G A RX8 cX8_isDigit 1 p s0 m args c := X
  have hT := tk_X8_isDigit X (calE_ok (es := es_X8_isDigit) (enn)) (rmD rfl hR) hret
  rw [← eq_X8_isDigit   a0 s] at h
  refine ex_good hT (fun pc' ls' st' x' hh => ?_) 12 0 _ [] s h
  cases hh

noncomputable def en_X8_isDigit  : En := fun _ av s k => match av with
  | [.int a0] => (bI (f_X8_isDigit a0 s) k)
  | _ => none
set_option maxRecDepth 100000 in
set_option maxHeartbeats 4000000 in
theorem en_X8_isDigit_ok {l : Launch} {G : Gm} (D : Nat) (hD : 1 ≤ D) : enOK l G D 75 en_X8_isDigit := by
  intro ρ av x k r h
  unfold en_X8_isDigit at h
  split at h
  · obtain ⟨q, h1, h2⟩ := bind_of h
    obtain ⟨D', rfl⟩ : ∃ D', D = D' + 1 := ⟨D - 1, by omega⟩
    exact ⟨_, _, h2, run_X8_isDigit  _ _ _ h1 D' (by omega)⟩
  · cases h

/-! HatRank$Tape readNumber -/
noncomputable def tb_X8_readNumber (cal : Cal SS) : List (Nat × Ins SS) := [(0, e_iconst (0) 1), (1, e_istore 1 2), (2, e_iconst (0) 3), (3, e_istore 2 4), (4, e_iload 2 5), (5, e_iconst (4) 6), (6, e_cge 48 9), (9, e_aload 0 10), (10, e_callV opsS cal 67 0 8 13), (13, e_callS cal 75 1 16), (16, e_ifeq 48 19), (19, e_iload 1 20), (20, e_iconst (10) 22), (22, e_bin aMul 23), (23, e_aload 0 24), (24, e_callV opsS cal 67 0 8 27), (27, e_bin aAdd 28), (28, e_iconst (48) 30), (30, e_bin aSub 31), (31, e_istore 1 32), (32, e_aload 0 33), (33, e_dup 34), (34, e_getI opsS 8 2 37), (37, e_iconst (1) 38), (38, e_bin aAdd 39), (39, e_putI opsS 8 2 42), (42, e_iinc 2 (1) 45), (45, e_goto 4), (48, e_aload 0 49), (49, e_getR opsS 8 4 52), (52, e_iconst (48) 54), (54, e_iload 1 55), (55, e_iconst (0) 56), (56, e_callV opsS cal 24 3 3 59), (59, e_iret)]
set_option maxRecDepth 100000 in
set_option maxHeartbeats 4000000 in
theorem tk_X8_readNumber {ad0 : Nat → Nat} {G : Gm} {A : Nat → Prop} {p : Program} {l : Launch} {e : Env} {R : Room} {s0 : State} {m : MethodId} {args : Array Value} {below : List Frame} {meth : Method} {c : Code} {Q : State → Prop} {ρ : Type} {ret : Option Value → SS → Option ρ} {r : ρ} (X : Cx G A RX8 cX8_readNumber 3 p s0 m args c) {D' : Nat} {cal : Cal SS} (hcal : calOK l G opsS D' cal) (hRm : ∀ k, k ≤ 21 → D' + 1 ≤ R.frames ∧ 8 + (k + 11) + 40 * D' ≤ R.locals) (hret : RetK G A cX8_readNumber 113 6344 ad0 p l e R s0 m args below meth c Q opsS ret r .ireturn okI) : ∀ q ∈ tb_X8_readNumber cal, OKi G A 3 113 6344 ad0 p l e R s0 m args below meth c Q opsS ret r q.1 q.2 :=
    okc (ok_iconst (n := 0) X (by decide +kernel) rfl rfl) (
    okc (ok_istore_n (j := 1) X (by decide +kernel) rfl rfl) (
    okc (ok_iconst (n := 0) X (by decide +kernel) rfl rfl) (
    okc (ok_istore_n (j := 2) X (by decide +kernel) rfl rfl) (
    okc (ok_iload_n (j := 2) X (by decide +kernel) rfl rfl) (
    okc (ok_iconst (n := 4) X (by decide +kernel) rfl rfl) (
    okc (ok_cge (off := 42) X (by decide +kernel) (by decide) rfl) (
    okc (ok_aload_n (j := 0) X (by decide +kernel) rfl rfl) (
    okc (ok_callV (ci := 8) (C := RX8) (T := TX8) (N := 5) (Y := (yX8_here, cX8_here, 1, (some .int))) X hcal opsS_n md_X8_here rfl (by decide) rfl wc_X8_here wl_X8_42 wi_X8 wm_X8_here wv_X8_here (by decide +kernel) (hRm 1 (by decide)) (by decide +kernel) rfl) (
    okc (ok_callS (Y := (yX8_isDigit, cX8_isDigit, 1, (some .boolean))) X hcal opsS_n md_X8_isDigit wc_X8_isDigit wl_X8_66 wi_X8 ws_X8_isDigit (by decide +kernel) (hRm 1 (by decide)) (by decide +kernel) rfl) (
    okc (ok_ifeq (off := 32) X (by decide +kernel) (by decide) rfl) (
    okc (ok_iload_n (j := 1) X (by decide +kernel) rfl rfl) (
    okc (ok_bipush (n := 10) X (by decide +kernel) rfl rfl) (
    okc (ok_imul X (by decide +kernel) rfl) (
    okc (ok_aload_n (j := 0) X (by decide +kernel) rfl rfl) (
    okc (ok_callV (ci := 8) (C := RX8) (T := TX8) (N := 5) (Y := (yX8_here, cX8_here, 1, (some .int))) X hcal opsS_n md_X8_here rfl (by decide) rfl wc_X8_here wl_X8_42 wi_X8 wm_X8_here wv_X8_here (by decide +kernel) (hRm 1 (by decide)) (by decide +kernel) rfl) (
    okc (ok_iadd X (by decide +kernel) rfl) (
    okc (ok_bipush (n := 48) X (by decide +kernel) rfl rfl) (
    okc (ok_isub X (by decide +kernel) rfl) (
    okc (ok_istore_n (j := 1) X (by decide +kernel) rfl rfl) (
    okc (ok_aload_n (j := 0) X (by decide +kernel) rfl rfl) (
    okc (ok_dup X (by decide +kernel) rfl) (
    okc (ok_getI (ci := 8) (kf := 2) (idx := 29) (C := RX8) (T := TX8) (N := 5) X rfl (by decide) inX8 (by decide) wf_X8_29 (fun _ _ _ => rfl) (by decide +kernel) rfl) (
    okc (ok_iconst (n := 1) X (by decide +kernel) rfl rfl) (
    okc (ok_iadd X (by decide +kernel) rfl) (
    okc (ok_putI (ci := 8) (kf := 2) (idx := 29) (C := RX8) (T := TX8) (N := 5) X opsS_ok rfl (by decide) inX8 tyX8_ok nmX8 (by decide) wf_X8_29 rfl (fun _ _ _ => rfl) (by decide +kernel) (by decide +kernel) rfl) (
    okc (ok_iinc (n := 1) X (by decide +kernel) rfl rfl) (
    okc (ok_goto (off := -41) X (by decide +kernel) (by decide)) (
    okc (ok_aload_n (j := 0) X (by decide +kernel) rfl rfl) (
    okc (ok_getR (ci := 8) (kf := 4) (idx := 22) (C := RX8) (T := TX8) (N := 5) X rfl (by decide) inX8 (by decide) wf_X8_22 (fun _ _ _ => rfl) (by decide +kernel) rfl) (
    okc (ok_bipush (n := 48) X (by decide +kernel) rfl rfl) (
    okc (ok_iload_n (j := 1) X (by decide +kernel) rfl rfl) (
    okc (ok_iconst (n := 0) X (by decide +kernel) rfl rfl) (
    okc (ok_callV (ci := 3) (C := RX3) (T := TX3) (N := 8) (Y := (yX3_add, cX3_add, 4, (some .int))) X hcal opsS_n md_X3_add rfl (by decide) rfl wc_X3_add wl_X8_62 wi_X3 wm_X3_add wv_X3_add (by decide +kernel) (hRm 4 (by decide)) (by decide +kernel) rfl) (
    okc (ok_iret hret (by decide +kernel)) (
    okn)))))))))))))))))))))))))))))))))))
noncomputable def es_X8_readNumber  : List (Nat × En) := [(67, en_X8_here), (75, en_X8_isDigit), (24, en_X3_add)]
noncomputable def ka_X8_readNumber_4   (n : Nat) : Kn SS (Int32 × SS) := fun pc ls st s => bif Nat.beq pc 4 then (match ls, st with
    | [some y0, some (.int x1), some (.int x2)], [] => (gd (veq y0 (.ref 11)) (F_X8_readNumber_4 n x1 x2 s))
    | _, _ => none) else (none)
set_option maxRecDepth 100000 in
set_option maxHeartbeats 4000000 in
theorem eq_X8_readNumber_4    (n : Nat) (x1 : Int32) (x2 : Int32) (s : SS) : ex (tb_X8_readNumber (calE (es_X8_readNumber))) rI [4] (ka_X8_readNumber_4   n) 37 4 [some (.ref 11), some (.int x1), some (.int x2)] [] s = F_X8_readNumber_4   (n + 1) x1 x2 s := by
  rfl
set_option maxRecDepth 100000 in
set_option maxHeartbeats 4000000 in
theorem gd_X8_readNumber_4 {ad0 : Nat → Nat} {G : Gm} {A : Nat → Prop} {p : Program} {l : Launch} {e : Env} {R : Room} {s0 : State} {m : MethodId} {args : Array Value} {below : List Frame} {meth : Method} {c : Code} {Q : State → Prop} {r : (Int32 × SS)}   (hT : ∀ q ∈ tb_X8_readNumber (calE (es_X8_readNumber)), OKi G A 3 113 6344 ad0 p l e R s0 m args below meth c Q opsS rI r q.1 q.2)   : ∀ (n : Nat) (x1 : Int32) (x2 : Int32) (s : SS), F_X8_readNumber_4   n x1 x2 s = some r → Gd G A 3 113 6344 ad0 p l e R s0 m args below meth c Q opsS 4 [some (.ref 11), some (.int x1), some (.int x2)] [] s := by
  intro n
  induction n with
  | zero =>
    intro x1 x2 s hh
    exact absurd (show (none : Option (Int32 × SS)) = some r from hh) (by simp)
  | succ n ih =>
    intro x1 x2 s hh
    rw [← eq_X8_readNumber_4    n x1 x2 s] at hh
    refine ex_good hT (fun pc' ls' st' x' hh => ?_) 37 4 _ [] s hh
    unfold ka_X8_readNumber_4 at hh
    cases hb : Nat.beq pc' 4 with
    | true =>
      rw [hb] at hh
      have e9 := beq1 hb
      subst e9
      simp only [cond_true] at hh
      split at hh
      · obtain ⟨g0, hh1⟩ := gd_some hh
        have e0 := veq_of g0
        subst e0
        exact Gd.wk (ih _ _ _ hh1) (Lle.eq (Lle.eq (Lle.eq Lle.nil)))
      · cases hh
    | false =>
      rw [hb] at hh
      simp only [cond_false] at hh
      cases hh

noncomputable def ka_X8_readNumber  : Kn SS (Int32 × SS) := fun pc ls st s => bif Nat.beq pc 4 then (match ls, st with
    | [some y0, some (.int x1), some (.int x2)], [] => (gd (veq y0 (.ref 11)) (F_X8_readNumber_4 fuel0 x1 x2 s))
    | _, _ => none) else (none)
set_option maxRecDepth 100000 in
set_option maxHeartbeats 4000000 in
theorem eq_X8_readNumber    (s : SS) : ex (tb_X8_readNumber (calE (es_X8_readNumber))) rI [4] (ka_X8_readNumber ) 37 0 [some (.ref 11), none, none] [] s = f_X8_readNumber  s := by
  rfl
set_option maxRecDepth 100000 in
set_option maxHeartbeats 4000000 in
theorem run_X8_readNumber {l : Launch} {G : Gm}    (s : SS) (q : (Int32 × SS)) (h : f_X8_readNumber  s = some q) (D' : Nat) (hD : 1 ≤ D') : RunsM l G (D' + 1) (md 74) (embS s) [.ref 11] (some (.int q.1)) (embS q.2) := by
  rw [md_X8_readNumber]
  refine runs_I (plainFor_of_name (by decide +kernel)) (Nat.le_of_ble_eq_true rfl) rfl ?_
  intro A p e R s0 m args below meth c Q ad0 hR X hret
  have X : Cx G A RX8 cX8_readNumber 3 p s0 m args c := X
  have hT := tk_X8_readNumber X (calE_ok (es := es_X8_readNumber) (enc (en_X8_here_ok _ (by omega)) (enc (en_X8_isDigit_ok _ (by omega)) (enc (en_X3_add_ok _ (by omega)) (enn))))) (rmD rfl hR) hret
  rw [← eq_X8_readNumber    s] at h
  refine ex_good hT (fun pc' ls' st' x' hh => ?_) 37 0 _ [] s h
  unfold ka_X8_readNumber at hh
  cases hb : Nat.beq pc' 4 with
  | true =>
    rw [hb] at hh
    have e9 := beq1 hb
    subst e9
    simp only [cond_true] at hh
    split at hh
    · obtain ⟨g0, hh1⟩ := gd_some hh
      have e0 := veq_of g0
      subst e0
      exact Gd.wk (gd_X8_readNumber_4 hT  _ _ _ _ hh1) (Lle.eq (Lle.eq (Lle.eq Lle.nil)))
    · cases hh
  | false =>
    rw [hb] at hh
    simp only [cond_false] at hh
    cases hh

noncomputable def en_X8_readNumber  : En := fun _ av s k => match av with
  | [.ref r0] => (gd (Nat.beq r0 11) (bI (f_X8_readNumber  s) k))
  | _ => none
set_option maxRecDepth 100000 in
set_option maxHeartbeats 4000000 in
theorem en_X8_readNumber_ok {l : Launch} {G : Gm} (D : Nat) (hD : 2 ≤ D) : enOK l G D 74 en_X8_readNumber := by
  intro ρ av x k r h
  unfold en_X8_readNumber at h
  split at h
  · obtain ⟨g0, h⟩ := gd_some h
    obtain ⟨q, h1, h2⟩ := bind_of h
    have e0 := beq1 g0
    subst e0
    obtain ⟨D', rfl⟩ : ∃ D', D = D' + 1 := ⟨D - 1, by omega⟩
    exact ⟨_, _, h2, run_X8_readNumber   _ _ h1 D' (by omega)⟩
  · cases h

def rc_X8R (l : Launch) (G : Gm) (D : Nat) (rc : Nat → Int32 → Int32 → SS → Option (Int32 × SS)) : Prop := (∀ (a0 : Int32) (a1 : Int32) (s : SS) (q : (Int32 × SS)), rc 0 a0 a1 s = some q → RunsM l G D (md 70) (embS s) [.ref 11, .int a0, .int a1] (some (.int q.1)) (embS q.2)) ∧ (∀ (a0 : Int32) (s : SS) (q : (Int32 × SS)), rc 1 a0 0 s = some q → RunsM l G D (md 72) (embS s) [.ref 11, .int a0] (some (.int q.1)) (embS q.2)) ∧ (∀ (a0 : Int32) (a1 : Int32) (s : SS) (q : (Int32 × SS)), rc 2 a0 a1 s = some q → RunsM l G D (md 73) (embS s) [.ref 11, .int a0, .int a1] (some (.int q.1)) (embS q.2))
noncomputable def en_X8_readJoined (rc : Nat → Int32 → Int32 → SS → Option (Int32 × SS)) : En := fun _ av s k => match av with
  | [.ref r0, .int a0, .int a1] => (gd (Nat.beq r0 11) (bI (rc 0 a0 a1 s) k))
  | _ => none
set_option maxRecDepth 100000 in
set_option maxHeartbeats 4000000 in
theorem en_X8_readJoined_ok {l : Launch} {G : Gm} {D : Nat} {rc : Nat → Int32 → Int32 → SS → Option (Int32 × SS)} (hrc : rc_X8R l G D rc) : enOK l G D 70 (en_X8_readJoined rc) := by
  intro ρ av x k r h
  unfold en_X8_readJoined at h
  split at h
  · obtain ⟨g0, h⟩ := gd_some h
    obtain ⟨q, h1, h2⟩ := bind_of h
    have e0 := beq1 g0
    subst e0
    exact ⟨_, _, h2, hrc.1 _ _ _ _ h1⟩
  · cases h

noncomputable def en_X8_readOperand (rc : Nat → Int32 → Int32 → SS → Option (Int32 × SS)) : En := fun _ av s k => match av with
  | [.ref r0, .int a0] => (gd (Nat.beq r0 11) (bI (rc 1 a0 0 s) k))
  | _ => none
set_option maxRecDepth 100000 in
set_option maxHeartbeats 4000000 in
theorem en_X8_readOperand_ok {l : Launch} {G : Gm} {D : Nat} {rc : Nat → Int32 → Int32 → SS → Option (Int32 × SS)} (hrc : rc_X8R l G D rc) : enOK l G D 72 (en_X8_readOperand rc) := by
  intro ρ av x k r h
  unfold en_X8_readOperand at h
  split at h
  · obtain ⟨g0, h⟩ := gd_some h
    obtain ⟨q, h1, h2⟩ := bind_of h
    have e0 := beq1 g0
    subst e0
    exact ⟨_, _, h2, hrc.2.1 _ _ _ h1⟩
  · cases h

noncomputable def en_X8_readOpened (rc : Nat → Int32 → Int32 → SS → Option (Int32 × SS)) : En := fun _ av s k => match av with
  | [.ref r0, .int a0, .int a1] => (gd (Nat.beq r0 11) (bI (rc 2 a0 a1 s) k))
  | _ => none
set_option maxRecDepth 100000 in
set_option maxHeartbeats 4000000 in
theorem en_X8_readOpened_ok {l : Launch} {G : Gm} {D : Nat} {rc : Nat → Int32 → Int32 → SS → Option (Int32 × SS)} (hrc : rc_X8R l G D rc) : enOK l G D 73 (en_X8_readOpened rc) := by
  intro ρ av x k r h
  unfold en_X8_readOpened at h
  split at h
  · obtain ⟨g0, h⟩ := gd_some h
    obtain ⟨q, h1, h2⟩ := bind_of h
    have e0 := beq1 g0
    subst e0
    exact ⟨_, _, h2, hrc.2.2 _ _ _ _ h1⟩
  · cases h

/-! HatRank$Tape readJoined -/
noncomputable def tb_X8_readJoined (cal : Cal SS) : List (Nat × Ins SS) := [(0, e_iload 1 1), (1, e_iconst (5) 2), (2, e_clt 11 5), (5, e_aload 0 6), (6, e_iload 2 7), (7, e_callV opsS cal 72 1 8 10), (10, e_iret), (11, e_aload 0 12), (12, e_iload 1 13), (13, e_iconst (1) 14), (14, e_bin aAdd 15), (15, e_iload 2 16), (16, e_callV opsS cal 70 2 8 19), (19, e_istore 3 20), (20, e_iload 1 21), (21, e_iconst (2) 22), (22, e_cne 29 25), (25, e_iconst (1) 26), (26, e_goto 31), (29, e_iconst (120) 31), (31, e_istore 4 33), (33, e_iconst (0) 34), (34, e_istore 5 36), (36, e_iload 5 38), (38, e_iload 4 40), (40, e_cge 112 43), (43, e_iload 3 44), (44, e_iflt 112 47), (47, e_aload 0 48), (48, e_callV opsS cal 67 0 8 51), (51, e_iload 1 52), (52, e_callS cal 71 2 55), (55, e_ifeq 112 58), (58, e_aload 0 59), (59, e_callV opsS cal 67 0 8 62), (62, e_istore 6 64), (64, e_aload 0 65), (65, e_dup 66), (66, e_getI opsS 8 2 69), (69, e_iconst (1) 70), (70, e_bin aAdd 71), (71, e_putI opsS 8 2 74), (74, e_aload 0 75), (75, e_iload 1 76), (76, e_iconst (1) 77), (77, e_bin aAdd 78), (78, e_iload 2 79), (79, e_callV opsS cal 70 2 8 82), (82, e_istore 7 84), (84, e_iload 7 86), (86, e_ifge 93 89), (89, e_iconst (-1) 90), (90, e_goto 105), (93, e_aload 0 94), (94, e_getR opsS 8 4 97), (97, e_iload 6 99), (99, e_iload 3 100), (100, e_iload 7 102), (102, e_callV opsS cal 24 3 3 105), (105, e_istore 3 106), (106, e_iinc 5 (1) 109), (109, e_goto 36), (112, e_iload 3 113), (113, e_iret)]
set_option maxRecDepth 100000 in
set_option maxHeartbeats 4000000 in
theorem tk_X8_readJoined {ad0 : Nat → Nat} {G : Gm} {A : Nat → Prop} {p : Program} {l : Launch} {e : Env} {R : Room} {s0 : State} {m : MethodId} {args : Array Value} {below : List Frame} {meth : Method} {c : Code} {Q : State → Prop} {ρ : Type} {ret : Option Value → SS → Option ρ} {r : ρ} (X : Cx G A RX8 cX8_readJoined 8 p s0 m args c) {D' : Nat} {cal : Cal SS} (hcal : calOK l G opsS D' cal) (hRm : ∀ k, k ≤ 21 → D' + 1 ≤ R.frames ∧ 8 + (k + 11) + 40 * D' ≤ R.locals) (hret : RetK G A cX8_readJoined 113 6344 ad0 p l e R s0 m args below meth c Q opsS ret r .ireturn okI) : ∀ q ∈ tb_X8_readJoined cal, OKi G A 8 113 6344 ad0 p l e R s0 m args below meth c Q opsS ret r q.1 q.2 :=
    okc (ok_iload_n (j := 1) X (by decide +kernel) rfl rfl) (
    okc (ok_iconst (n := 5) X (by decide +kernel) rfl rfl) (
    okc (ok_clt (off := 9) X (by decide +kernel) (by decide) rfl) (
    okc (ok_aload_n (j := 0) X (by decide +kernel) rfl rfl) (
    okc (ok_iload_n (j := 2) X (by decide +kernel) rfl rfl) (
    okc (ok_callV (ci := 8) (C := RX8) (T := TX8) (N := 5) (Y := (yX8_readOperand, cX8_readOperand, 4, (some .int))) X hcal opsS_n md_X8_readOperand rfl (by decide) rfl wc_X8_readOperand wl_X8_54 wi_X8 wm_X8_readOperand wv_X8_readOperand (by decide +kernel) (hRm 4 (by decide)) (by decide +kernel) rfl) (
    okc (ok_iret hret (by decide +kernel)) (
    okc (ok_aload_n (j := 0) X (by decide +kernel) rfl rfl) (
    okc (ok_iload_n (j := 1) X (by decide +kernel) rfl rfl) (
    okc (ok_iconst (n := 1) X (by decide +kernel) rfl rfl) (
    okc (ok_iadd X (by decide +kernel) rfl) (
    okc (ok_iload_n (j := 2) X (by decide +kernel) rfl rfl) (
    okc (ok_callV (ci := 8) (C := RX8) (T := TX8) (N := 5) (Y := (yX8_readJoined, cX8_readJoined, 8, (some .int))) X hcal opsS_n md_X8_readJoined rfl (by decide) rfl wc_X8_readJoined wl_X8_46 wi_X8 wm_X8_readJoined wv_X8_readJoined (by decide +kernel) (hRm 8 (by decide)) (by decide +kernel) rfl) (
    okc (ok_istore_n (j := 3) X (by decide +kernel) rfl rfl) (
    okc (ok_iload_n (j := 1) X (by decide +kernel) rfl rfl) (
    okc (ok_iconst (n := 2) X (by decide +kernel) rfl rfl) (
    okc (ok_cne (off := 7) X (by decide +kernel) (by decide) rfl) (
    okc (ok_iconst (n := 1) X (by decide +kernel) rfl rfl) (
    okc (ok_goto (off := 5) X (by decide +kernel) (by decide)) (
    okc (ok_bipush (n := 120) X (by decide +kernel) rfl rfl) (
    okc (ok_istore X (by decide +kernel) rfl) (
    okc (ok_iconst (n := 0) X (by decide +kernel) rfl rfl) (
    okc (ok_istore X (by decide +kernel) rfl) (
    okc (ok_iload X (by decide +kernel) rfl) (
    okc (ok_iload X (by decide +kernel) rfl) (
    okc (ok_cge (off := 72) X (by decide +kernel) (by decide) rfl) (
    okc (ok_iload_n (j := 3) X (by decide +kernel) rfl rfl) (
    okc (ok_iflt (off := 68) X (by decide +kernel) (by decide) rfl) (
    okc (ok_aload_n (j := 0) X (by decide +kernel) rfl rfl) (
    okc (ok_callV (ci := 8) (C := RX8) (T := TX8) (N := 5) (Y := (yX8_here, cX8_here, 1, (some .int))) X hcal opsS_n md_X8_here rfl (by decide) rfl wc_X8_here wl_X8_42 wi_X8 wm_X8_here wv_X8_here (by decide +kernel) (hRm 1 (by decide)) (by decide +kernel) rfl) (
    okc (ok_iload_n (j := 1) X (by decide +kernel) rfl rfl) (
    okc (ok_callS (Y := (yX8_joins, cX8_joins, 2, (some .boolean))) X hcal opsS_n md_X8_joins wc_X8_joins wl_X8_58 wi_X8 ws_X8_joins (by decide +kernel) (hRm 2 (by decide)) (by decide +kernel) rfl) (
    okc (ok_ifeq (off := 57) X (by decide +kernel) (by decide) rfl) (
    okc (ok_aload_n (j := 0) X (by decide +kernel) rfl rfl) (
    okc (ok_callV (ci := 8) (C := RX8) (T := TX8) (N := 5) (Y := (yX8_here, cX8_here, 1, (some .int))) X hcal opsS_n md_X8_here rfl (by decide) rfl wc_X8_here wl_X8_42 wi_X8 wm_X8_here wv_X8_here (by decide +kernel) (hRm 1 (by decide)) (by decide +kernel) rfl) (
    okc (ok_istore X (by decide +kernel) rfl) (
    okc (ok_aload_n (j := 0) X (by decide +kernel) rfl rfl) (
    okc (ok_dup X (by decide +kernel) rfl) (
    okc (ok_getI (ci := 8) (kf := 2) (idx := 29) (C := RX8) (T := TX8) (N := 5) X rfl (by decide) inX8 (by decide) wf_X8_29 (fun _ _ _ => rfl) (by decide +kernel) rfl) (
    okc (ok_iconst (n := 1) X (by decide +kernel) rfl rfl) (
    okc (ok_iadd X (by decide +kernel) rfl) (
    okc (ok_putI (ci := 8) (kf := 2) (idx := 29) (C := RX8) (T := TX8) (N := 5) X opsS_ok rfl (by decide) inX8 tyX8_ok nmX8 (by decide) wf_X8_29 rfl (fun _ _ _ => rfl) (by decide +kernel) (by decide +kernel) rfl) (
    okc (ok_aload_n (j := 0) X (by decide +kernel) rfl rfl) (
    okc (ok_iload_n (j := 1) X (by decide +kernel) rfl rfl) (
    okc (ok_iconst (n := 1) X (by decide +kernel) rfl rfl) (
    okc (ok_iadd X (by decide +kernel) rfl) (
    okc (ok_iload_n (j := 2) X (by decide +kernel) rfl rfl) (
    okc (ok_callV (ci := 8) (C := RX8) (T := TX8) (N := 5) (Y := (yX8_readJoined, cX8_readJoined, 8, (some .int))) X hcal opsS_n md_X8_readJoined rfl (by decide) rfl wc_X8_readJoined wl_X8_46 wi_X8 wm_X8_readJoined wv_X8_readJoined (by decide +kernel) (hRm 8 (by decide)) (by decide +kernel) rfl) (
    okc (ok_istore X (by decide +kernel) rfl) (
    okc (ok_iload X (by decide +kernel) rfl) (
    okc (ok_ifge (off := 7) X (by decide +kernel) (by decide) rfl) (
    okc (ok_iconst (n := -1) X (by decide +kernel) rfl rfl) (
    okc (ok_goto (off := 15) X (by decide +kernel) (by decide)) (
    okc (ok_aload_n (j := 0) X (by decide +kernel) rfl rfl) (
    okc (ok_getR (ci := 8) (kf := 4) (idx := 22) (C := RX8) (T := TX8) (N := 5) X rfl (by decide) inX8 (by decide) wf_X8_22 (fun _ _ _ => rfl) (by decide +kernel) rfl) (
    okc (ok_iload X (by decide +kernel) rfl) (
    okc (ok_iload_n (j := 3) X (by decide +kernel) rfl rfl) (
    okc (ok_iload X (by decide +kernel) rfl) (
    okc (ok_callV (ci := 3) (C := RX3) (T := TX3) (N := 8) (Y := (yX3_add, cX3_add, 4, (some .int))) X hcal opsS_n md_X3_add rfl (by decide) rfl wc_X3_add wl_X8_62 wi_X3 wm_X3_add wv_X3_add (by decide +kernel) (hRm 4 (by decide)) (by decide +kernel) rfl) (
    okc (ok_istore_n (j := 3) X (by decide +kernel) rfl rfl) (
    okc (ok_iinc (n := 1) X (by decide +kernel) rfl rfl) (
    okc (ok_goto (off := -73) X (by decide +kernel) (by decide)) (
    okc (ok_iload_n (j := 3) X (by decide +kernel) rfl rfl) (
    okc (ok_iret hret (by decide +kernel)) (
    okn))))))))))))))))))))))))))))))))))))))))))))))))))))))))))))))))
noncomputable def es_X8_readJoined (rc : Nat → Int32 → Int32 → SS → Option (Int32 × SS)) : List (Nat × En) := [(72, en_X8_readOperand rc), (70, en_X8_readJoined rc), (67, en_X8_here), (71, en_X8_joins), (24, en_X3_add)]
noncomputable def ka_X8_readJoined_36 (rc : Nat → Int32 → Int32 → SS → Option (Int32 × SS))  (n : Nat) : Kn SS (Int32 × SS) := fun pc ls st s => bif Nat.beq pc 36 then (match ls, st with
    | [some y0, some (.int x1), some (.int x2), some (.int x3), some (.int x4), some (.int x5), _, _], [] => (gd (veq y0 (.ref 11)) (F_X8_readJoined_36 rc n x1 x2 x3 x4 x5 s))
    | _, _ => none) else (none)
set_option maxRecDepth 100000 in
set_option maxHeartbeats 4000000 in
theorem eq_X8_readJoined_36 (rc : Nat → Int32 → Int32 → SS → Option (Int32 × SS))   (n : Nat) (x1 : Int32) (x2 : Int32) (x3 : Int32) (x4 : Int32) (x5 : Int32) (s : SS) : ex (tb_X8_readJoined (calE (es_X8_readJoined rc))) rI [36] (ka_X8_readJoined_36 rc  n) 66 36 [some (.ref 11), some (.int x1), some (.int x2), some (.int x3), some (.int x4), some (.int x5), none, none] [] s = F_X8_readJoined_36 rc  (n + 1) x1 x2 x3 x4 x5 s := by
  rfl
set_option maxRecDepth 100000 in
set_option maxHeartbeats 4000000 in
theorem gd_X8_readJoined_36 {ad0 : Nat → Nat} {G : Gm} {A : Nat → Prop} {p : Program} {l : Launch} {e : Env} {R : Room} {s0 : State} {m : MethodId} {args : Array Value} {below : List Frame} {meth : Method} {c : Code} {Q : State → Prop} {r : (Int32 × SS)} {rc : Nat → Int32 → Int32 → SS → Option (Int32 × SS)}  (hT : ∀ q ∈ tb_X8_readJoined (calE (es_X8_readJoined rc)), OKi G A 8 113 6344 ad0 p l e R s0 m args below meth c Q opsS rI r q.1 q.2)   : ∀ (n : Nat) (x1 : Int32) (x2 : Int32) (x3 : Int32) (x4 : Int32) (x5 : Int32) (s : SS), F_X8_readJoined_36 rc  n x1 x2 x3 x4 x5 s = some r → Gd G A 8 113 6344 ad0 p l e R s0 m args below meth c Q opsS 36 [some (.ref 11), some (.int x1), some (.int x2), some (.int x3), some (.int x4), some (.int x5), none, none] [] s := by
  intro n
  induction n with
  | zero =>
    intro x1 x2 x3 x4 x5 s hh
    exact absurd (show (none : Option (Int32 × SS)) = some r from hh) (by simp)
  | succ n ih =>
    intro x1 x2 x3 x4 x5 s hh
    rw [← eq_X8_readJoined_36 rc   n x1 x2 x3 x4 x5 s] at hh
    refine ex_good hT (fun pc' ls' st' x' hh => ?_) 66 36 _ [] s hh
    unfold ka_X8_readJoined_36 at hh
    cases hb : Nat.beq pc' 36 with
    | true =>
      rw [hb] at hh
      have e9 := beq1 hb
      subst e9
      simp only [cond_true] at hh
      split at hh
      · obtain ⟨g0, hh1⟩ := gd_some hh
        have e0 := veq_of g0
        subst e0
        exact Gd.wk (ih _ _ _ _ _ _ hh1) (Lle.eq (Lle.eq (Lle.eq (Lle.eq (Lle.eq (Lle.eq (Lle.no (Lle.no Lle.nil))))))))
      · cases hh
    | false =>
      rw [hb] at hh
      simp only [cond_false] at hh
      cases hh

noncomputable def ka_X8_readJoined (rc : Nat → Int32 → Int32 → SS → Option (Int32 × SS)) : Kn SS (Int32 × SS) := fun pc ls st s => bif Nat.beq pc 36 then (match ls, st with
    | [some y0, some (.int x1), some (.int x2), some (.int x3), some (.int x4), some (.int x5), _, _], [] => (gd (veq y0 (.ref 11)) (F_X8_readJoined_36 rc fuel0 x1 x2 x3 x4 x5 s))
    | _, _ => none) else (none)
set_option maxRecDepth 100000 in
set_option maxHeartbeats 4000000 in
theorem eq_X8_readJoined (rc : Nat → Int32 → Int32 → SS → Option (Int32 × SS))  (a0 : Int32) (a1 : Int32) (s : SS) : ex (tb_X8_readJoined (calE (es_X8_readJoined rc))) rI [36] (ka_X8_readJoined rc) 66 0 [some (.ref 11), some (.int a0), some (.int a1), none, none, none, none, none] [] s = f_X8_readJoined rc a0 a1 s := by
  rfl
set_option maxRecDepth 100000 in
set_option maxHeartbeats 4000000 in
theorem run_X8_readJoined {l : Launch} {G : Gm} {rc : Nat → Int32 → Int32 → SS → Option (Int32 × SS)}  (a0 : Int32) (a1 : Int32) (s : SS) (q : (Int32 × SS)) (h : f_X8_readJoined rc a0 a1 s = some q) (D' : Nat) (hD : 1 ≤ D') (hrc : rc_X8R l G D' rc) : RunsM l G (D' + 1) (md 70) (embS s) [.ref 11, .int a0, .int a1] (some (.int q.1)) (embS q.2) := by
  rw [md_X8_readJoined]
  refine runs_I (plainFor_of_name (by decide +kernel)) (Nat.le_of_ble_eq_true rfl) rfl ?_
  intro A p e R s0 m args below meth c Q ad0 hR X hret
  have X : Cx G A RX8 cX8_readJoined 8 p s0 m args c := X
  have hT := tk_X8_readJoined X (calE_ok (es := es_X8_readJoined rc) (enc (en_X8_readOperand_ok hrc) (enc (en_X8_readJoined_ok hrc) (enc (en_X8_here_ok _ (by omega)) (enc (en_X8_joins_ok _ (by omega)) (enc (en_X3_add_ok _ (by omega)) (enn))))))) (rmD rfl hR) hret
  rw [← eq_X8_readJoined rc  a0 a1 s] at h
  refine ex_good hT (fun pc' ls' st' x' hh => ?_) 66 0 _ [] s h
  unfold ka_X8_readJoined at hh
  cases hb : Nat.beq pc' 36 with
  | true =>
    rw [hb] at hh
    have e9 := beq1 hb
    subst e9
    simp only [cond_true] at hh
    split at hh
    · obtain ⟨g0, hh1⟩ := gd_some hh
      have e0 := veq_of g0
      subst e0
      exact Gd.wk (gd_X8_readJoined_36 hT  _ _ _ _ _ _ _ hh1) (Lle.eq (Lle.eq (Lle.eq (Lle.eq (Lle.eq (Lle.eq (Lle.no (Lle.no Lle.nil))))))))
    · cases hh
  | false =>
    rw [hb] at hh
    simp only [cond_false] at hh
    cases hh


/-! HatRank$Tape readOperand -/
noncomputable def tb_X8_readOperand (cal : Cal SS) : List (Nat × Ins SS) := [(0, e_aload 0 1), (1, e_callV opsS cal 67 0 8 4), (4, e_istore 2 5), (5, e_iload 2 6), (6, e_callS cal 75 1 9), (9, e_ifeq 17 12), (12, e_aload 0 13), (13, e_callV opsS cal 74 0 8 16), (16, e_iret), (17, e_iload 2 18), (18, e_iconst (40) 20), (20, e_ceq 35 23), (23, e_iload 2 24), (24, e_iconst (33) 26), (26, e_ceq 35 29), (29, e_iload 2 30), (30, e_iconst (45) 32), (32, e_cne 54 35), (35, e_iload 1 36), (36, e_iconst (6) 38), (38, e_cge 52 41), (41, e_aload 0 42), (42, e_iload 2 43), (43, e_iload 1 44), (44, e_iconst (1) 45), (45, e_bin aAdd 46), (46, e_callV opsS cal 73 2 8 49), (49, e_goto 53), (52, e_iconst (-1) 53), (53, e_iret), (54, e_iload 2 55), (55, e_ifge 62 58), (58, e_iconst (-1) 59), (59, e_goto 69), (62, e_ldcS 64), (64, e_iload 2 65), (65, e_un aC 66), (66, e_callX cal 249 1 69), (69, e_istore 3 70), (70, e_iload 3 71), (71, e_iflt 84 74), (74, e_aload 0 75), (75, e_dup 76), (76, e_getI opsS 8 2 79), (79, e_iconst (1) 80), (80, e_bin aAdd 81), (81, e_putI opsS 8 2 84), (84, e_iload 3 85), (85, e_iret)]
set_option maxRecDepth 100000 in
set_option maxHeartbeats 4000000 in
theorem tk_X8_readOperand {ad0 : Nat → Nat} {G : Gm} {A : Nat → Prop} {p : Program} {l : Launch} {e : Env} {R : Room} {s0 : State} {m : MethodId} {args : Array Value} {below : List Frame} {meth : Method} {c : Code} {Q : State → Prop} {ρ : Type} {ret : Option Value → SS → Option ρ} {r : ρ} (X : Cx G A RX8 cX8_readOperand 4 p s0 m args c) {D' : Nat} {cal : Cal SS} (hcal : calOK l G opsS D' cal) (hRm : ∀ k, k ≤ 21 → D' + 1 ≤ R.frames ∧ 8 + (k + 11) + 40 * D' ≤ R.locals) (hret : RetK G A cX8_readOperand 113 6344 ad0 p l e R s0 m args below meth c Q opsS ret r .ireturn okI) : ∀ q ∈ tb_X8_readOperand cal, OKi G A 4 113 6344 ad0 p l e R s0 m args below meth c Q opsS ret r q.1 q.2 :=
    okc (ok_aload_n (j := 0) X (by decide +kernel) rfl rfl) (
    okc (ok_callV (ci := 8) (C := RX8) (T := TX8) (N := 5) (Y := (yX8_here, cX8_here, 1, (some .int))) X hcal opsS_n md_X8_here rfl (by decide) rfl wc_X8_here wl_X8_42 wi_X8 wm_X8_here wv_X8_here (by decide +kernel) (hRm 1 (by decide)) (by decide +kernel) rfl) (
    okc (ok_istore_n (j := 2) X (by decide +kernel) rfl rfl) (
    okc (ok_iload_n (j := 2) X (by decide +kernel) rfl rfl) (
    okc (ok_callS (Y := (yX8_isDigit, cX8_isDigit, 1, (some .boolean))) X hcal opsS_n md_X8_isDigit wc_X8_isDigit wl_X8_66 wi_X8 ws_X8_isDigit (by decide +kernel) (hRm 1 (by decide)) (by decide +kernel) rfl) (
    okc (ok_ifeq (off := 8) X (by decide +kernel) (by decide) rfl) (
    okc (ok_aload_n (j := 0) X (by decide +kernel) rfl rfl) (
    okc (ok_callV (ci := 8) (C := RX8) (T := TX8) (N := 5) (Y := (yX8_readNumber, cX8_readNumber, 3, (some .int))) X hcal opsS_n md_X8_readNumber rfl (by decide) rfl wc_X8_readNumber wl_X8_70 wi_X8 wm_X8_readNumber wv_X8_readNumber (by decide +kernel) (hRm 3 (by decide)) (by decide +kernel) rfl) (
    okc (ok_iret hret (by decide +kernel)) (
    okc (ok_iload_n (j := 2) X (by decide +kernel) rfl rfl) (
    okc (ok_bipush (n := 40) X (by decide +kernel) rfl rfl) (
    okc (ok_ceq (off := 15) X (by decide +kernel) (by decide) rfl) (
    okc (ok_iload_n (j := 2) X (by decide +kernel) rfl rfl) (
    okc (ok_bipush (n := 33) X (by decide +kernel) rfl rfl) (
    okc (ok_ceq (off := 9) X (by decide +kernel) (by decide) rfl) (
    okc (ok_iload_n (j := 2) X (by decide +kernel) rfl rfl) (
    okc (ok_bipush (n := 45) X (by decide +kernel) rfl rfl) (
    okc (ok_cne (off := 22) X (by decide +kernel) (by decide) rfl) (
    okc (ok_iload_n (j := 1) X (by decide +kernel) rfl rfl) (
    okc (ok_bipush (n := 6) X (by decide +kernel) rfl rfl) (
    okc (ok_cge (off := 14) X (by decide +kernel) (by decide) rfl) (
    okc (ok_aload_n (j := 0) X (by decide +kernel) rfl rfl) (
    okc (ok_iload_n (j := 2) X (by decide +kernel) rfl rfl) (
    okc (ok_iload_n (j := 1) X (by decide +kernel) rfl rfl) (
    okc (ok_iconst (n := 1) X (by decide +kernel) rfl rfl) (
    okc (ok_iadd X (by decide +kernel) rfl) (
    okc (ok_callV (ci := 8) (C := RX8) (T := TX8) (N := 5) (Y := (yX8_readOpened, cX8_readOpened, 4, (some .int))) X hcal opsS_n md_X8_readOpened rfl (by decide) rfl wc_X8_readOpened wl_X8_73 wi_X8 wm_X8_readOpened wv_X8_readOpened (by decide +kernel) (hRm 4 (by decide)) (by decide +kernel) rfl) (
    okc (ok_goto (off := 4) X (by decide +kernel) (by decide)) (
    okc (ok_iconst (n := -1) X (by decide +kernel) rfl rfl) (
    okc (ok_iret hret (by decide +kernel)) (
    okc (ok_iload_n (j := 2) X (by decide +kernel) rfl rfl) (
    okc (ok_ifge (off := 7) X (by decide +kernel) (by decide) rfl) (
    okc (ok_iconst (n := -1) X (by decide +kernel) rfl rfl) (
    okc (ok_goto (off := 10) X (by decide +kernel) (by decide)) (
    okc (ok_ldcS X (by decide +kernel) rfl) (
    okc (ok_iload_n (j := 2) X (by decide +kernel) rfl rfl) (
    okc (ok_i2c X (by decide +kernel) rfl) (
    okc (ok_callX (Y := (yJ0_indexOf_0f7a4, cJ0_indexOf_0f7a4, 2, (some .int))) X hcal opsS_n md_J0_indexOf_0f7a4 rfl wc_J0_indexOf_0f7a4 wl_X8_78 wi_J0 wm_J0_indexOf_0f7a4 wv_J0_indexOf_0f7a4 (by decide +kernel) (hRm 2 (by decide)) (by decide +kernel) rfl) (
    okc (ok_istore_n (j := 3) X (by decide +kernel) rfl rfl) (
    okc (ok_iload_n (j := 3) X (by decide +kernel) rfl rfl) (
    okc (ok_iflt (off := 13) X (by decide +kernel) (by decide) rfl) (
    okc (ok_aload_n (j := 0) X (by decide +kernel) rfl rfl) (
    okc (ok_dup X (by decide +kernel) rfl) (
    okc (ok_getI (ci := 8) (kf := 2) (idx := 29) (C := RX8) (T := TX8) (N := 5) X rfl (by decide) inX8 (by decide) wf_X8_29 (fun _ _ _ => rfl) (by decide +kernel) rfl) (
    okc (ok_iconst (n := 1) X (by decide +kernel) rfl rfl) (
    okc (ok_iadd X (by decide +kernel) rfl) (
    okc (ok_putI (ci := 8) (kf := 2) (idx := 29) (C := RX8) (T := TX8) (N := 5) X opsS_ok rfl (by decide) inX8 tyX8_ok nmX8 (by decide) wf_X8_29 rfl (fun _ _ _ => rfl) (by decide +kernel) (by decide +kernel) rfl) (
    okc (ok_iload_n (j := 3) X (by decide +kernel) rfl rfl) (
    okc (ok_iret hret (by decide +kernel)) (
    okn)))))))))))))))))))))))))))))))))))))))))))))))))
noncomputable def es_X8_readOperand (rc : Nat → Int32 → Int32 → SS → Option (Int32 × SS)) : List (Nat × En) := [(67, en_X8_here), (75, en_X8_isDigit), (74, en_X8_readNumber), (73, en_X8_readOpened rc), (249, en_J0_indexOf_0f7a4)]
set_option maxRecDepth 100000 in
set_option maxHeartbeats 4000000 in
theorem eq_X8_readOperand (rc : Nat → Int32 → Int32 → SS → Option (Int32 × SS))  (a0 : Int32) (s : SS) : ex (tb_X8_readOperand (calE (es_X8_readOperand rc))) rI [] (fun _ _ _ _ => none) 51 0 [some (.ref 11), some (.int a0), none, none] [] s = f_X8_readOperand rc a0 s := by
  rfl
set_option maxRecDepth 100000 in
set_option maxHeartbeats 4000000 in
theorem run_X8_readOperand {l : Launch} {G : Gm} {rc : Nat → Int32 → Int32 → SS → Option (Int32 × SS)}  (a0 : Int32) (s : SS) (q : (Int32 × SS)) (h : f_X8_readOperand rc a0 s = some q) (D' : Nat) (hD : 4 ≤ D') (hrc : rc_X8R l G D' rc) : RunsM l G (D' + 1) (md 72) (embS s) [.ref 11, .int a0] (some (.int q.1)) (embS q.2) := by
  rw [md_X8_readOperand]
  refine runs_I (plainFor_of_name (by decide +kernel)) (Nat.le_of_ble_eq_true rfl) rfl ?_
  intro A p e R s0 m args below meth c Q ad0 hR X hret
  have X : Cx G A RX8 cX8_readOperand 4 p s0 m args c := X
  have hT := tk_X8_readOperand X (calE_ok (es := es_X8_readOperand rc) (enc (en_X8_here_ok _ (by omega)) (enc (en_X8_isDigit_ok _ (by omega)) (enc (en_X8_readNumber_ok _ (by omega)) (enc (en_X8_readOpened_ok hrc) (enc (en_J0_indexOf_0f7a4_ok _ (by omega)) (enn))))))) (rmD rfl hR) hret
  rw [← eq_X8_readOperand rc  a0 s] at h
  refine ex_good hT (fun pc' ls' st' x' hh => ?_) 51 0 _ [] s h
  cases hh


/-! HatRank$Tape readOpened -/
noncomputable def tb_X8_readOpened (cal : Cal SS) : List (Nat × Ins SS) := [(0, e_aload 0 1), (1, e_dup 2), (2, e_getI opsS 8 2 5), (5, e_iconst (1) 6), (6, e_bin aAdd 7), (7, e_putI opsS 8 2 10), (10, e_iload 1 11), (11, e_iconst (40) 13), (13, e_ceq 53 16), (16, e_aload 0 17), (17, e_iload 2 18), (18, e_callV opsS cal 72 1 8 21), (21, e_istore 3 22), (22, e_iload 3 23), (23, e_ifge 30 26), (26, e_iconst (-1) 27), (27, e_goto 52), (30, e_aload 0 31), (31, e_getR opsS 8 4 34), (34, e_iload 1 35), (35, e_iconst (33) 37), (37, e_cne 45 40), (40, e_iconst (33) 42), (42, e_goto 47), (45, e_iconst (95) 47), (47, e_iload 3 48), (48, e_iconst (0) 49), (49, e_callV opsS cal 24 3 3 52), (52, e_iret), (53, e_aload 0 54), (54, e_iconst (0) 55), (55, e_iload 2 56), (56, e_callV opsS cal 70 2 8 59), (59, e_istore 3 60), (60, e_iload 3 61), (61, e_iflt 73 64), (64, e_aload 0 65), (65, e_callV opsS cal 67 0 8 68), (68, e_iconst (41) 70), (70, e_ceq 75 73), (73, e_iconst (-1) 74), (74, e_iret), (75, e_aload 0 76), (76, e_dup 77), (77, e_getI opsS 8 2 80), (80, e_iconst (1) 81), (81, e_bin aAdd 82), (82, e_putI opsS 8 2 85), (85, e_iload 3 86), (86, e_iret)]
set_option maxRecDepth 100000 in
set_option maxHeartbeats 4000000 in
theorem tk_X8_readOpened {ad0 : Nat → Nat} {G : Gm} {A : Nat → Prop} {p : Program} {l : Launch} {e : Env} {R : Room} {s0 : State} {m : MethodId} {args : Array Value} {below : List Frame} {meth : Method} {c : Code} {Q : State → Prop} {ρ : Type} {ret : Option Value → SS → Option ρ} {r : ρ} (X : Cx G A RX8 cX8_readOpened 4 p s0 m args c) {D' : Nat} {cal : Cal SS} (hcal : calOK l G opsS D' cal) (hRm : ∀ k, k ≤ 21 → D' + 1 ≤ R.frames ∧ 8 + (k + 11) + 40 * D' ≤ R.locals) (hret : RetK G A cX8_readOpened 113 6344 ad0 p l e R s0 m args below meth c Q opsS ret r .ireturn okI) : ∀ q ∈ tb_X8_readOpened cal, OKi G A 4 113 6344 ad0 p l e R s0 m args below meth c Q opsS ret r q.1 q.2 :=
    okc (ok_aload_n (j := 0) X (by decide +kernel) rfl rfl) (
    okc (ok_dup X (by decide +kernel) rfl) (
    okc (ok_getI (ci := 8) (kf := 2) (idx := 29) (C := RX8) (T := TX8) (N := 5) X rfl (by decide) inX8 (by decide) wf_X8_29 (fun _ _ _ => rfl) (by decide +kernel) rfl) (
    okc (ok_iconst (n := 1) X (by decide +kernel) rfl rfl) (
    okc (ok_iadd X (by decide +kernel) rfl) (
    okc (ok_putI (ci := 8) (kf := 2) (idx := 29) (C := RX8) (T := TX8) (N := 5) X opsS_ok rfl (by decide) inX8 tyX8_ok nmX8 (by decide) wf_X8_29 rfl (fun _ _ _ => rfl) (by decide +kernel) (by decide +kernel) rfl) (
    okc (ok_iload_n (j := 1) X (by decide +kernel) rfl rfl) (
    okc (ok_bipush (n := 40) X (by decide +kernel) rfl rfl) (
    okc (ok_ceq (off := 40) X (by decide +kernel) (by decide) rfl) (
    okc (ok_aload_n (j := 0) X (by decide +kernel) rfl rfl) (
    okc (ok_iload_n (j := 2) X (by decide +kernel) rfl rfl) (
    okc (ok_callV (ci := 8) (C := RX8) (T := TX8) (N := 5) (Y := (yX8_readOperand, cX8_readOperand, 4, (some .int))) X hcal opsS_n md_X8_readOperand rfl (by decide) rfl wc_X8_readOperand wl_X8_54 wi_X8 wm_X8_readOperand wv_X8_readOperand (by decide +kernel) (hRm 4 (by decide)) (by decide +kernel) rfl) (
    okc (ok_istore_n (j := 3) X (by decide +kernel) rfl rfl) (
    okc (ok_iload_n (j := 3) X (by decide +kernel) rfl rfl) (
    okc (ok_ifge (off := 7) X (by decide +kernel) (by decide) rfl) (
    okc (ok_iconst (n := -1) X (by decide +kernel) rfl rfl) (
    okc (ok_goto (off := 25) X (by decide +kernel) (by decide)) (
    okc (ok_aload_n (j := 0) X (by decide +kernel) rfl rfl) (
    okc (ok_getR (ci := 8) (kf := 4) (idx := 22) (C := RX8) (T := TX8) (N := 5) X rfl (by decide) inX8 (by decide) wf_X8_22 (fun _ _ _ => rfl) (by decide +kernel) rfl) (
    okc (ok_iload_n (j := 1) X (by decide +kernel) rfl rfl) (
    okc (ok_bipush (n := 33) X (by decide +kernel) rfl rfl) (
    okc (ok_cne (off := 8) X (by decide +kernel) (by decide) rfl) (
    okc (ok_bipush (n := 33) X (by decide +kernel) rfl rfl) (
    okc (ok_goto (off := 5) X (by decide +kernel) (by decide)) (
    okc (ok_bipush (n := 95) X (by decide +kernel) rfl rfl) (
    okc (ok_iload_n (j := 3) X (by decide +kernel) rfl rfl) (
    okc (ok_iconst (n := 0) X (by decide +kernel) rfl rfl) (
    okc (ok_callV (ci := 3) (C := RX3) (T := TX3) (N := 8) (Y := (yX3_add, cX3_add, 4, (some .int))) X hcal opsS_n md_X3_add rfl (by decide) rfl wc_X3_add wl_X8_62 wi_X3 wm_X3_add wv_X3_add (by decide +kernel) (hRm 4 (by decide)) (by decide +kernel) rfl) (
    okc (ok_iret hret (by decide +kernel)) (
    okc (ok_aload_n (j := 0) X (by decide +kernel) rfl rfl) (
    okc (ok_iconst (n := 0) X (by decide +kernel) rfl rfl) (
    okc (ok_iload_n (j := 2) X (by decide +kernel) rfl rfl) (
    okc (ok_callV (ci := 8) (C := RX8) (T := TX8) (N := 5) (Y := (yX8_readJoined, cX8_readJoined, 8, (some .int))) X hcal opsS_n md_X8_readJoined rfl (by decide) rfl wc_X8_readJoined wl_X8_46 wi_X8 wm_X8_readJoined wv_X8_readJoined (by decide +kernel) (hRm 8 (by decide)) (by decide +kernel) rfl) (
    okc (ok_istore_n (j := 3) X (by decide +kernel) rfl rfl) (
    okc (ok_iload_n (j := 3) X (by decide +kernel) rfl rfl) (
    okc (ok_iflt (off := 12) X (by decide +kernel) (by decide) rfl) (
    okc (ok_aload_n (j := 0) X (by decide +kernel) rfl rfl) (
    okc (ok_callV (ci := 8) (C := RX8) (T := TX8) (N := 5) (Y := (yX8_here, cX8_here, 1, (some .int))) X hcal opsS_n md_X8_here rfl (by decide) rfl wc_X8_here wl_X8_42 wi_X8 wm_X8_here wv_X8_here (by decide +kernel) (hRm 1 (by decide)) (by decide +kernel) rfl) (
    okc (ok_bipush (n := 41) X (by decide +kernel) rfl rfl) (
    okc (ok_ceq (off := 5) X (by decide +kernel) (by decide) rfl) (
    okc (ok_iconst (n := -1) X (by decide +kernel) rfl rfl) (
    okc (ok_iret hret (by decide +kernel)) (
    okc (ok_aload_n (j := 0) X (by decide +kernel) rfl rfl) (
    okc (ok_dup X (by decide +kernel) rfl) (
    okc (ok_getI (ci := 8) (kf := 2) (idx := 29) (C := RX8) (T := TX8) (N := 5) X rfl (by decide) inX8 (by decide) wf_X8_29 (fun _ _ _ => rfl) (by decide +kernel) rfl) (
    okc (ok_iconst (n := 1) X (by decide +kernel) rfl rfl) (
    okc (ok_iadd X (by decide +kernel) rfl) (
    okc (ok_putI (ci := 8) (kf := 2) (idx := 29) (C := RX8) (T := TX8) (N := 5) X opsS_ok rfl (by decide) inX8 tyX8_ok nmX8 (by decide) wf_X8_29 rfl (fun _ _ _ => rfl) (by decide +kernel) (by decide +kernel) rfl) (
    okc (ok_iload_n (j := 3) X (by decide +kernel) rfl rfl) (
    okc (ok_iret hret (by decide +kernel)) (
    okn))))))))))))))))))))))))))))))))))))))))))))))))))
noncomputable def es_X8_readOpened (rc : Nat → Int32 → Int32 → SS → Option (Int32 × SS)) : List (Nat × En) := [(72, en_X8_readOperand rc), (24, en_X3_add), (70, en_X8_readJoined rc), (67, en_X8_here)]
set_option maxRecDepth 100000 in
set_option maxHeartbeats 4000000 in
theorem eq_X8_readOpened (rc : Nat → Int32 → Int32 → SS → Option (Int32 × SS))  (a0 : Int32) (a1 : Int32) (s : SS) : ex (tb_X8_readOpened (calE (es_X8_readOpened rc))) rI [] (fun _ _ _ _ => none) 52 0 [some (.ref 11), some (.int a0), some (.int a1), none] [] s = f_X8_readOpened rc a0 a1 s := by
  rfl
set_option maxRecDepth 100000 in
set_option maxHeartbeats 4000000 in
theorem run_X8_readOpened {l : Launch} {G : Gm} {rc : Nat → Int32 → Int32 → SS → Option (Int32 × SS)}  (a0 : Int32) (a1 : Int32) (s : SS) (q : (Int32 × SS)) (h : f_X8_readOpened rc a0 a1 s = some q) (D' : Nat) (hD : 1 ≤ D') (hrc : rc_X8R l G D' rc) : RunsM l G (D' + 1) (md 73) (embS s) [.ref 11, .int a0, .int a1] (some (.int q.1)) (embS q.2) := by
  rw [md_X8_readOpened]
  refine runs_I (plainFor_of_name (by decide +kernel)) (Nat.le_of_ble_eq_true rfl) rfl ?_
  intro A p e R s0 m args below meth c Q ad0 hR X hret
  have X : Cx G A RX8 cX8_readOpened 4 p s0 m args c := X
  have hT := tk_X8_readOpened X (calE_ok (es := es_X8_readOpened rc) (enc (en_X8_readOperand_ok hrc) (enc (en_X3_add_ok _ (by omega)) (enc (en_X8_readJoined_ok hrc) (enc (en_X8_here_ok _ (by omega)) (enn)))))) (rmD rfl hR) hret
  rw [← eq_X8_readOpened rc  a0 a1 s] at h
  refine ex_good hT (fun pc' ls' st' x' hh => ?_) 52 0 _ [] s h
  cases hh


set_option maxRecDepth 100000 in
set_option maxHeartbeats 4000000 in
theorem g_X8R_ok {l : Launch} {G : Gm} : ∀ (n D : Nat), 5 + n ≤ D → rc_X8R l G D (g_X8R n) := by
  intro n
  induction n with
  | zero =>
    intro D hD
    exact ⟨fun a0 a1 s q h => absurd (show (none : Option (Int32 × SS)) = some q from h) (by simp), fun a0 s q h => absurd (show (none : Option (Int32 × SS)) = some q from h) (by simp), fun a0 a1 s q h => absurd (show (none : Option (Int32 × SS)) = some q from h) (by simp)⟩
  | succ n ih =>
    intro D hD
    obtain ⟨D', rfl⟩ : ∃ D', D = D' + 1 := ⟨D - 1, by omega⟩
    have hrc := ih D' (by omega)
    exact ⟨fun a0 a1 s q h => run_X8_readJoined (rc := g_X8R n) a0 a1 s q h D' (by omega) hrc, fun a0 s q h => run_X8_readOperand (rc := g_X8R n) a0 s q h D' (by omega) hrc, fun a0 a1 s q h => run_X8_readOpened (rc := g_X8R n) a0 a1 s q h D' (by omega) hrc⟩
/-! HatRank$Tape readLine -/
noncomputable def tb_X8_readLine (cal : Cal SS) : List (Nat × Ins SS) := [(0, e_aload 0 1), (1, e_iconst (0) 2), (2, e_iconst (0) 3), (3, e_callV opsS cal 70 2 8 6), (6, e_istore 1 7), (7, e_iload 1 8), (8, e_iflt 20 11), (11, e_aload 0 12), (12, e_callV opsS cal 67 0 8 15), (15, e_iconst (63) 17), (17, e_ceq 39 20), (20, e_aload 0 21), (21, e_getR opsS 8 4 24), (24, e_iconst (-1) 25), (25, e_iload 1 26), (26, e_callV opsS cal 25 2 3 29), (29, e_iload 1 30), (30, e_iflt 37 33), (33, e_iconst (1) 34), (34, e_goto 38), (37, e_iconst (0) 38), (38, e_zret), (39, e_aload 0 40), (40, e_dup 41), (41, e_getI opsS 8 2 44), (44, e_iconst (1) 45), (45, e_bin aAdd 46), (46, e_putI opsS 8 2 49), (49, e_aload 0 50), (50, e_iconst (0) 51), (51, e_iconst (0) 52), (52, e_callV opsS cal 70 2 8 55), (55, e_istore 2 56), (56, e_aload 0 57), (57, e_getR opsS 8 4 60), (60, e_iload 1 61), (61, e_iload 2 62), (62, e_callV opsS cal 25 2 3 65), (65, e_iload 2 66), (66, e_iflt 73 69), (69, e_iconst (1) 70), (70, e_goto 74), (73, e_iconst (0) 74), (74, e_zret)]
set_option maxRecDepth 100000 in
set_option maxHeartbeats 4000000 in
theorem tk_X8_readLine {ad0 : Nat → Nat} {G : Gm} {A : Nat → Prop} {p : Program} {l : Launch} {e : Env} {R : Room} {s0 : State} {m : MethodId} {args : Array Value} {below : List Frame} {meth : Method} {c : Code} {Q : State → Prop} {ρ : Type} {ret : Option Value → SS → Option ρ} {r : ρ} (X : Cx G A RX8 cX8_readLine 3 p s0 m args c) {D' : Nat} {cal : Cal SS} (hcal : calOK l G opsS D' cal) (hRm : ∀ k, k ≤ 21 → D' + 1 ≤ R.frames ∧ 8 + (k + 11) + 40 * D' ≤ R.locals) (hret : RetK G A cX8_readLine 113 6344 ad0 p l e R s0 m args below meth c Q opsS ret r .ireturn okZ) : ∀ q ∈ tb_X8_readLine cal, OKi G A 3 113 6344 ad0 p l e R s0 m args below meth c Q opsS ret r q.1 q.2 :=
    okc (ok_aload_n (j := 0) X (by decide +kernel) rfl rfl) (
    okc (ok_iconst (n := 0) X (by decide +kernel) rfl rfl) (
    okc (ok_iconst (n := 0) X (by decide +kernel) rfl rfl) (
    okc (ok_callV (ci := 8) (C := RX8) (T := TX8) (N := 5) (Y := (yX8_readJoined, cX8_readJoined, 8, (some .int))) X hcal opsS_n md_X8_readJoined rfl (by decide) rfl wc_X8_readJoined wl_X8_46 wi_X8 wm_X8_readJoined wv_X8_readJoined (by decide +kernel) (hRm 8 (by decide)) (by decide +kernel) rfl) (
    okc (ok_istore_n (j := 1) X (by decide +kernel) rfl rfl) (
    okc (ok_iload_n (j := 1) X (by decide +kernel) rfl rfl) (
    okc (ok_iflt (off := 12) X (by decide +kernel) (by decide) rfl) (
    okc (ok_aload_n (j := 0) X (by decide +kernel) rfl rfl) (
    okc (ok_callV (ci := 8) (C := RX8) (T := TX8) (N := 5) (Y := (yX8_here, cX8_here, 1, (some .int))) X hcal opsS_n md_X8_here rfl (by decide) rfl wc_X8_here wl_X8_42 wi_X8 wm_X8_here wv_X8_here (by decide +kernel) (hRm 1 (by decide)) (by decide +kernel) rfl) (
    okc (ok_bipush (n := 63) X (by decide +kernel) rfl rfl) (
    okc (ok_ceq (off := 22) X (by decide +kernel) (by decide) rfl) (
    okc (ok_aload_n (j := 0) X (by decide +kernel) rfl rfl) (
    okc (ok_getR (ci := 8) (kf := 4) (idx := 22) (C := RX8) (T := TX8) (N := 5) X rfl (by decide) inX8 (by decide) wf_X8_22 (fun _ _ _ => rfl) (by decide +kernel) rfl) (
    okc (ok_iconst (n := -1) X (by decide +kernel) rfl rfl) (
    okc (ok_iload_n (j := 1) X (by decide +kernel) rfl rfl) (
    okc (ok_callV (ci := 3) (C := RX3) (T := TX3) (N := 8) (Y := (yX3_addLine, cX3_addLine, 3, none)) X hcal opsS_n md_X3_addLine rfl (by decide) rfl wc_X3_addLine wl_X8_50 wi_X3 wm_X3_addLine wv_X3_addLine (by decide +kernel) (hRm 3 (by decide)) (by decide +kernel) rfl) (
    okc (ok_iload_n (j := 1) X (by decide +kernel) rfl rfl) (
    okc (ok_iflt (off := 7) X (by decide +kernel) (by decide) rfl) (
    okc (ok_iconst (n := 1) X (by decide +kernel) rfl rfl) (
    okc (ok_goto (off := 4) X (by decide +kernel) (by decide)) (
    okc (ok_iconst (n := 0) X (by decide +kernel) rfl rfl) (
    okc (ok_zret hret (by decide +kernel)) (
    okc (ok_aload_n (j := 0) X (by decide +kernel) rfl rfl) (
    okc (ok_dup X (by decide +kernel) rfl) (
    okc (ok_getI (ci := 8) (kf := 2) (idx := 29) (C := RX8) (T := TX8) (N := 5) X rfl (by decide) inX8 (by decide) wf_X8_29 (fun _ _ _ => rfl) (by decide +kernel) rfl) (
    okc (ok_iconst (n := 1) X (by decide +kernel) rfl rfl) (
    okc (ok_iadd X (by decide +kernel) rfl) (
    okc (ok_putI (ci := 8) (kf := 2) (idx := 29) (C := RX8) (T := TX8) (N := 5) X opsS_ok rfl (by decide) inX8 tyX8_ok nmX8 (by decide) wf_X8_29 rfl (fun _ _ _ => rfl) (by decide +kernel) (by decide +kernel) rfl) (
    okc (ok_aload_n (j := 0) X (by decide +kernel) rfl rfl) (
    okc (ok_iconst (n := 0) X (by decide +kernel) rfl rfl) (
    okc (ok_iconst (n := 0) X (by decide +kernel) rfl rfl) (
    okc (ok_callV (ci := 8) (C := RX8) (T := TX8) (N := 5) (Y := (yX8_readJoined, cX8_readJoined, 8, (some .int))) X hcal opsS_n md_X8_readJoined rfl (by decide) rfl wc_X8_readJoined wl_X8_46 wi_X8 wm_X8_readJoined wv_X8_readJoined (by decide +kernel) (hRm 8 (by decide)) (by decide +kernel) rfl) (
    okc (ok_istore_n (j := 2) X (by decide +kernel) rfl rfl) (
    okc (ok_aload_n (j := 0) X (by decide +kernel) rfl rfl) (
    okc (ok_getR (ci := 8) (kf := 4) (idx := 22) (C := RX8) (T := TX8) (N := 5) X rfl (by decide) inX8 (by decide) wf_X8_22 (fun _ _ _ => rfl) (by decide +kernel) rfl) (
    okc (ok_iload_n (j := 1) X (by decide +kernel) rfl rfl) (
    okc (ok_iload_n (j := 2) X (by decide +kernel) rfl rfl) (
    okc (ok_callV (ci := 3) (C := RX3) (T := TX3) (N := 8) (Y := (yX3_addLine, cX3_addLine, 3, none)) X hcal opsS_n md_X3_addLine rfl (by decide) rfl wc_X3_addLine wl_X8_50 wi_X3 wm_X3_addLine wv_X3_addLine (by decide +kernel) (hRm 3 (by decide)) (by decide +kernel) rfl) (
    okc (ok_iload_n (j := 2) X (by decide +kernel) rfl rfl) (
    okc (ok_iflt (off := 7) X (by decide +kernel) (by decide) rfl) (
    okc (ok_iconst (n := 1) X (by decide +kernel) rfl rfl) (
    okc (ok_goto (off := 4) X (by decide +kernel) (by decide)) (
    okc (ok_iconst (n := 0) X (by decide +kernel) rfl rfl) (
    okc (ok_zret hret (by decide +kernel)) (
    okn))))))))))))))))))))))))))))))))))))))))))))
noncomputable def es_X8_readLine  : List (Nat × En) := [(70, en_X8_readJoined (g_X8R fuelR)), (67, en_X8_here), (25, en_X3_addLine)]
set_option maxRecDepth 100000 in
set_option maxHeartbeats 4000000 in
theorem eq_X8_readLine    (s : SS) : ex (tb_X8_readLine (calE (es_X8_readLine))) rI [] (fun _ _ _ _ => none) 46 0 [some (.ref 11), none, none] [] s = f_X8_readLine  s := by
  rfl
set_option maxRecDepth 100000 in
set_option maxHeartbeats 4000000 in
theorem run_X8_readLine {l : Launch} {G : Gm}    (s : SS) (q : (Int32 × SS)) (h : f_X8_readLine  s = some q) (D' : Nat) (hD : 105 ≤ D') : RunsM l G (D' + 1) (md 69) (embS s) [.ref 11] (some (.int q.1)) (embS q.2) := by
  rw [md_X8_readLine]
  refine runs_Z (plainFor_of_name (by decide +kernel)) (Nat.le_of_ble_eq_true rfl) rfl ?_
  intro A p e R s0 m args below meth c Q ad0 hR X hret
  have X : Cx G A RX8 cX8_readLine 3 p s0 m args c := X
  have hT := tk_X8_readLine X (calE_ok (es := es_X8_readLine) (enc (en_X8_readJoined_ok (g_X8R_ok _ _ (by rw [fuelR_eq]; omega))) (enc (en_X8_here_ok _ (by omega)) (enc (en_X3_addLine_ok _ (by omega)) (enn))))) (rmD rfl hR) hret
  rw [← eq_X8_readLine    s] at h
  refine ex_good hT (fun pc' ls' st' x' hh => ?_) 46 0 _ [] s h
  cases hh

noncomputable def en_X8_readLine  : En := fun _ av s k => match av with
  | [.ref r0] => (gd (Nat.beq r0 11) (bI (f_X8_readLine  s) k))
  | _ => none
set_option maxRecDepth 100000 in
set_option maxHeartbeats 4000000 in
theorem en_X8_readLine_ok {l : Launch} {G : Gm} (D : Nat) (hD : 106 ≤ D) : enOK l G D 69 en_X8_readLine := by
  intro ρ av x k r h
  unfold en_X8_readLine at h
  split at h
  · obtain ⟨g0, h⟩ := gd_some h
    obtain ⟨q, h1, h2⟩ := bind_of h
    have e0 := beq1 g0
    subst e0
    obtain ⟨D', rfl⟩ : ∃ D', D = D' + 1 := ⟨D - 1, by omega⟩
    exact ⟨_, _, h2, run_X8_readLine   _ _ h1 D' (by omega)⟩
  · cases h

/-! HatRank$Tape readLines -/
noncomputable def tb_X8_readLines (cal : Cal SS) : List (Nat × Ins SS) := [(0, e_iconst (0) 1), (1, e_istore 1 2), (2, e_iload 1 3), (3, e_iconst (120) 5), (5, e_cgt 57 8), (8, e_aload 0 9), (9, e_callV opsS cal 69 0 8 12), (12, e_ifne 17 15), (15, e_iconst (0) 16), (16, e_zret), (17, e_aload 0 18), (18, e_getI opsS 8 2 21), (21, e_aload 0 22), (22, e_getI opsS 8 0 25), (25, e_cne 30 28), (28, e_iconst (1) 29), (29, e_zret), (30, e_aload 0 31), (31, e_callV opsS cal 67 0 8 34), (34, e_iconst (59) 36), (36, e_ceq 41 39), (39, e_iconst (0) 40), (40, e_zret), (41, e_aload 0 42), (42, e_dup 43), (43, e_getI opsS 8 2 46), (46, e_iconst (1) 47), (47, e_bin aAdd 48), (48, e_putI opsS 8 2 51), (51, e_iinc 1 (1) 54), (54, e_goto 2), (57, e_iconst (0) 58), (58, e_zret)]
set_option maxRecDepth 100000 in
set_option maxHeartbeats 4000000 in
theorem tk_X8_readLines {ad0 : Nat → Nat} {G : Gm} {A : Nat → Prop} {p : Program} {l : Launch} {e : Env} {R : Room} {s0 : State} {m : MethodId} {args : Array Value} {below : List Frame} {meth : Method} {c : Code} {Q : State → Prop} {ρ : Type} {ret : Option Value → SS → Option ρ} {r : ρ} (X : Cx G A RX8 cX8_readLines 2 p s0 m args c) {D' : Nat} {cal : Cal SS} (hcal : calOK l G opsS D' cal) (hRm : ∀ k, k ≤ 21 → D' + 1 ≤ R.frames ∧ 8 + (k + 11) + 40 * D' ≤ R.locals) (hret : RetK G A cX8_readLines 113 6344 ad0 p l e R s0 m args below meth c Q opsS ret r .ireturn okZ) : ∀ q ∈ tb_X8_readLines cal, OKi G A 2 113 6344 ad0 p l e R s0 m args below meth c Q opsS ret r q.1 q.2 :=
    okc (ok_iconst (n := 0) X (by decide +kernel) rfl rfl) (
    okc (ok_istore_n (j := 1) X (by decide +kernel) rfl rfl) (
    okc (ok_iload_n (j := 1) X (by decide +kernel) rfl rfl) (
    okc (ok_bipush (n := 120) X (by decide +kernel) rfl rfl) (
    okc (ok_cgt (off := 52) X (by decide +kernel) (by decide) rfl) (
    okc (ok_aload_n (j := 0) X (by decide +kernel) rfl rfl) (
    okc (ok_callV (ci := 8) (C := RX8) (T := TX8) (N := 5) (Y := (yX8_readLine, cX8_readLine, 3, (some .boolean))) X hcal opsS_n md_X8_readLine rfl (by decide) rfl wc_X8_readLine wl_X8_39 wi_X8 wm_X8_readLine wv_X8_readLine (by decide +kernel) (hRm 3 (by decide)) (by decide +kernel) rfl) (
    okc (ok_ifne (off := 5) X (by decide +kernel) (by decide) rfl) (
    okc (ok_iconst (n := 0) X (by decide +kernel) rfl rfl) (
    okc (ok_zret hret (by decide +kernel)) (
    okc (ok_aload_n (j := 0) X (by decide +kernel) rfl rfl) (
    okc (ok_getI (ci := 8) (kf := 2) (idx := 29) (C := RX8) (T := TX8) (N := 5) X rfl (by decide) inX8 (by decide) wf_X8_29 (fun _ _ _ => rfl) (by decide +kernel) rfl) (
    okc (ok_aload_n (j := 0) X (by decide +kernel) rfl rfl) (
    okc (ok_getI (ci := 8) (kf := 0) (idx := 25) (C := RX8) (T := TX8) (N := 5) X rfl (by decide) inX8 (by decide) wf_X8_25 (fun _ _ _ => rfl) (by decide +kernel) rfl) (
    okc (ok_cne (off := 5) X (by decide +kernel) (by decide) rfl) (
    okc (ok_iconst (n := 1) X (by decide +kernel) rfl rfl) (
    okc (ok_zret hret (by decide +kernel)) (
    okc (ok_aload_n (j := 0) X (by decide +kernel) rfl rfl) (
    okc (ok_callV (ci := 8) (C := RX8) (T := TX8) (N := 5) (Y := (yX8_here, cX8_here, 1, (some .int))) X hcal opsS_n md_X8_here rfl (by decide) rfl wc_X8_here wl_X8_42 wi_X8 wm_X8_here wv_X8_here (by decide +kernel) (hRm 1 (by decide)) (by decide +kernel) rfl) (
    okc (ok_bipush (n := 59) X (by decide +kernel) rfl rfl) (
    okc (ok_ceq (off := 5) X (by decide +kernel) (by decide) rfl) (
    okc (ok_iconst (n := 0) X (by decide +kernel) rfl rfl) (
    okc (ok_zret hret (by decide +kernel)) (
    okc (ok_aload_n (j := 0) X (by decide +kernel) rfl rfl) (
    okc (ok_dup X (by decide +kernel) rfl) (
    okc (ok_getI (ci := 8) (kf := 2) (idx := 29) (C := RX8) (T := TX8) (N := 5) X rfl (by decide) inX8 (by decide) wf_X8_29 (fun _ _ _ => rfl) (by decide +kernel) rfl) (
    okc (ok_iconst (n := 1) X (by decide +kernel) rfl rfl) (
    okc (ok_iadd X (by decide +kernel) rfl) (
    okc (ok_putI (ci := 8) (kf := 2) (idx := 29) (C := RX8) (T := TX8) (N := 5) X opsS_ok rfl (by decide) inX8 tyX8_ok nmX8 (by decide) wf_X8_29 rfl (fun _ _ _ => rfl) (by decide +kernel) (by decide +kernel) rfl) (
    okc (ok_iinc (n := 1) X (by decide +kernel) rfl rfl) (
    okc (ok_goto (off := -52) X (by decide +kernel) (by decide)) (
    okc (ok_iconst (n := 0) X (by decide +kernel) rfl rfl) (
    okc (ok_zret hret (by decide +kernel)) (
    okn)))))))))))))))))))))))))))))))))
noncomputable def es_X8_readLines  : List (Nat × En) := [(69, en_X8_readLine), (67, en_X8_here)]
noncomputable def ka_X8_readLines_2   (n : Nat) : Kn SS (Int32 × SS) := fun pc ls st s => bif Nat.beq pc 2 then (match ls, st with
    | [some y0, some (.int x1)], [] => (gd (veq y0 (.ref 11)) (F_X8_readLines_2 n x1 s))
    | _, _ => none) else (none)
set_option maxRecDepth 100000 in
set_option maxHeartbeats 4000000 in
theorem eq_X8_readLines_2    (n : Nat) (x1 : Int32) (s : SS) : ex (tb_X8_readLines (calE (es_X8_readLines))) rI [2] (ka_X8_readLines_2   n) 35 2 [some (.ref 11), some (.int x1)] [] s = F_X8_readLines_2   (n + 1) x1 s := by
  rfl
set_option maxRecDepth 100000 in
set_option maxHeartbeats 4000000 in
theorem gd_X8_readLines_2 {ad0 : Nat → Nat} {G : Gm} {A : Nat → Prop} {p : Program} {l : Launch} {e : Env} {R : Room} {s0 : State} {m : MethodId} {args : Array Value} {below : List Frame} {meth : Method} {c : Code} {Q : State → Prop} {r : (Int32 × SS)}   (hT : ∀ q ∈ tb_X8_readLines (calE (es_X8_readLines)), OKi G A 2 113 6344 ad0 p l e R s0 m args below meth c Q opsS rI r q.1 q.2)   : ∀ (n : Nat) (x1 : Int32) (s : SS), F_X8_readLines_2   n x1 s = some r → Gd G A 2 113 6344 ad0 p l e R s0 m args below meth c Q opsS 2 [some (.ref 11), some (.int x1)] [] s := by
  intro n
  induction n with
  | zero =>
    intro x1 s hh
    exact absurd (show (none : Option (Int32 × SS)) = some r from hh) (by simp)
  | succ n ih =>
    intro x1 s hh
    rw [← eq_X8_readLines_2    n x1 s] at hh
    refine ex_good hT (fun pc' ls' st' x' hh => ?_) 35 2 _ [] s hh
    unfold ka_X8_readLines_2 at hh
    cases hb : Nat.beq pc' 2 with
    | true =>
      rw [hb] at hh
      have e9 := beq1 hb
      subst e9
      simp only [cond_true] at hh
      split at hh
      · obtain ⟨g0, hh1⟩ := gd_some hh
        have e0 := veq_of g0
        subst e0
        exact Gd.wk (ih _ _ hh1) (Lle.eq (Lle.eq Lle.nil))
      · cases hh
    | false =>
      rw [hb] at hh
      simp only [cond_false] at hh
      cases hh

noncomputable def ka_X8_readLines  : Kn SS (Int32 × SS) := fun pc ls st s => bif Nat.beq pc 2 then (match ls, st with
    | [some y0, some (.int x1)], [] => (gd (veq y0 (.ref 11)) (F_X8_readLines_2 fuel0 x1 s))
    | _, _ => none) else (none)
set_option maxRecDepth 100000 in
set_option maxHeartbeats 4000000 in
theorem eq_X8_readLines    (s : SS) : ex (tb_X8_readLines (calE (es_X8_readLines))) rI [2] (ka_X8_readLines ) 35 0 [some (.ref 11), none] [] s = f_X8_readLines  s := by
  rfl
set_option maxRecDepth 100000 in
set_option maxHeartbeats 4000000 in
theorem run_X8_readLines {l : Launch} {G : Gm}    (s : SS) (q : (Int32 × SS)) (h : f_X8_readLines  s = some q) (D' : Nat) (hD : 106 ≤ D') : RunsM l G (D' + 1) (md 68) (embS s) [.ref 11] (some (.int q.1)) (embS q.2) := by
  rw [md_X8_readLines]
  refine runs_Z (plainFor_of_name (by decide +kernel)) (Nat.le_of_ble_eq_true rfl) rfl ?_
  intro A p e R s0 m args below meth c Q ad0 hR X hret
  have X : Cx G A RX8 cX8_readLines 2 p s0 m args c := X
  have hT := tk_X8_readLines X (calE_ok (es := es_X8_readLines) (enc (en_X8_readLine_ok _ (by omega)) (enc (en_X8_here_ok _ (by omega)) (enn)))) (rmD rfl hR) hret
  rw [← eq_X8_readLines    s] at h
  refine ex_good hT (fun pc' ls' st' x' hh => ?_) 35 0 _ [] s h
  unfold ka_X8_readLines at hh
  cases hb : Nat.beq pc' 2 with
  | true =>
    rw [hb] at hh
    have e9 := beq1 hb
    subst e9
    simp only [cond_true] at hh
    split at hh
    · obtain ⟨g0, hh1⟩ := gd_some hh
      have e0 := veq_of g0
      subst e0
      exact Gd.wk (gd_X8_readLines_2 hT  _ _ _ hh1) (Lle.eq (Lle.eq Lle.nil))
    · cases hh
  | false =>
    rw [hb] at hh
    simp only [cond_false] at hh
    cases hh

noncomputable def en_X8_readLines  : En := fun _ av s k => match av with
  | [.ref r0] => (gd (Nat.beq r0 11) (bI (f_X8_readLines  s) k))
  | _ => none
set_option maxRecDepth 100000 in
set_option maxHeartbeats 4000000 in
theorem en_X8_readLines_ok {l : Launch} {G : Gm} (D : Nat) (hD : 107 ≤ D) : enOK l G D 68 en_X8_readLines := by
  intro ρ av x k r h
  unfold en_X8_readLines at h
  split at h
  · obtain ⟨g0, h⟩ := gd_some h
    obtain ⟨q, h1, h2⟩ := bind_of h
    have e0 := beq1 g0
    subst e0
    obtain ⟨D', rfl⟩ : ∃ D', D = D' + 1 := ⟨D - 1, by omega⟩
    exact ⟨_, _, h2, run_X8_readLines   _ _ h1 D' (by omega)⟩
  · cases h

/-! HatRank$Tape becomeLaw -/
noncomputable def tb_X8_becomeLaw (cal : Cal SS) : List (Nat × Ins SS) := [(0, e_aload 0 1), (1, e_iconst (0) 2), (2, e_putI opsS 8 2 5), (5, e_aload 0 6), (6, e_getR opsS 8 4 9), (9, e_callV opsS cal 21 0 3 12), (12, e_aload 0 13), (13, e_callV opsS cal 68 0 8 16), (16, e_ifeq 23 19), (19, e_iconst (-1) 20), (20, e_goto 27), (23, e_aload 0 24), (24, e_getI opsS 8 2 27), (27, e_istore 1 28), (28, e_iload 1 29), (29, e_ifge 50 32), (32, e_aload 0 33), (33, e_getR opsS 8 3 36), (36, e_astore 2 37), (37, e_aload 0 38), (38, e_aload 0 39), (39, e_getR opsS 8 4 42), (42, e_putR opsS 8 3 45), (45, e_aload 0 46), (46, e_aload 2 47), (47, e_putR opsS 8 4 50), (50, e_aload 0 51), (51, e_iconst (0) 52), (52, e_putI opsS 8 0 55), (55, e_iload 1 56), (56, e_iret)]
set_option maxRecDepth 100000 in
set_option maxHeartbeats 4000000 in
theorem tk_X8_becomeLaw {ad0 : Nat → Nat} {G : Gm} {A : Nat → Prop} {p : Program} {l : Launch} {e : Env} {R : Room} {s0 : State} {m : MethodId} {args : Array Value} {below : List Frame} {meth : Method} {c : Code} {Q : State → Prop} {ρ : Type} {ret : Option Value → SS → Option ρ} {r : ρ} (X : Cx G A RX8 cX8_becomeLaw 3 p s0 m args c) {D' : Nat} {cal : Cal SS} (hcal : calOK l G opsS D' cal) (hRm : ∀ k, k ≤ 21 → D' + 1 ≤ R.frames ∧ 8 + (k + 11) + 40 * D' ≤ R.locals) (hret : RetK G A cX8_becomeLaw 113 6344 ad0 p l e R s0 m args below meth c Q opsS ret r .ireturn okI) : ∀ q ∈ tb_X8_becomeLaw cal, OKi G A 3 113 6344 ad0 p l e R s0 m args below meth c Q opsS ret r q.1 q.2 :=
    okc (ok_aload_n (j := 0) X (by decide +kernel) rfl rfl) (
    okc (ok_iconst (n := 0) X (by decide +kernel) rfl rfl) (
    okc (ok_putI (ci := 8) (kf := 2) (idx := 29) (C := RX8) (T := TX8) (N := 5) X opsS_ok rfl (by decide) inX8 tyX8_ok nmX8 (by decide) wf_X8_29 rfl (fun _ _ _ => rfl) (by decide +kernel) (by decide +kernel) rfl) (
    okc (ok_aload_n (j := 0) X (by decide +kernel) rfl rfl) (
    okc (ok_getR (ci := 8) (kf := 4) (idx := 22) (C := RX8) (T := TX8) (N := 5) X rfl (by decide) inX8 (by decide) wf_X8_22 (fun _ _ _ => rfl) (by decide +kernel) rfl) (
    okc (ok_callV (ci := 3) (C := RX3) (T := TX3) (N := 8) (Y := (yX3_clear, cX3_clear, 1, none)) X hcal opsS_n md_X3_clear rfl (by decide) rfl wc_X3_clear wl_X8_32 wi_X3 wm_X3_clear wv_X3_clear (by decide +kernel) (hRm 1 (by decide)) (by decide +kernel) rfl) (
    okc (ok_aload_n (j := 0) X (by decide +kernel) rfl rfl) (
    okc (ok_callV (ci := 8) (C := RX8) (T := TX8) (N := 5) (Y := (yX8_readLines, cX8_readLines, 2, (some .boolean))) X hcal opsS_n md_X8_readLines rfl (by decide) rfl wc_X8_readLines wl_X8_35 wi_X8 wm_X8_readLines wv_X8_readLines (by decide +kernel) (hRm 2 (by decide)) (by decide +kernel) rfl) (
    okc (ok_ifeq (off := 7) X (by decide +kernel) (by decide) rfl) (
    okc (ok_iconst (n := -1) X (by decide +kernel) rfl rfl) (
    okc (ok_goto (off := 7) X (by decide +kernel) (by decide)) (
    okc (ok_aload_n (j := 0) X (by decide +kernel) rfl rfl) (
    okc (ok_getI (ci := 8) (kf := 2) (idx := 29) (C := RX8) (T := TX8) (N := 5) X rfl (by decide) inX8 (by decide) wf_X8_29 (fun _ _ _ => rfl) (by decide +kernel) rfl) (
    okc (ok_istore_n (j := 1) X (by decide +kernel) rfl rfl) (
    okc (ok_iload_n (j := 1) X (by decide +kernel) rfl rfl) (
    okc (ok_ifge (off := 21) X (by decide +kernel) (by decide) rfl) (
    okc (ok_aload_n (j := 0) X (by decide +kernel) rfl rfl) (
    okc (ok_getR (ci := 8) (kf := 3) (idx := 18) (C := RX8) (T := TX8) (N := 5) X rfl (by decide) inX8 (by decide) wf_X8_18 (fun _ _ _ => rfl) (by decide +kernel) rfl) (
    okc (ok_astore_n (j := 2) X (by decide +kernel) rfl rfl) (
    okc (ok_aload_n (j := 0) X (by decide +kernel) rfl rfl) (
    okc (ok_aload_n (j := 0) X (by decide +kernel) rfl rfl) (
    okc (ok_getR (ci := 8) (kf := 4) (idx := 22) (C := RX8) (T := TX8) (N := 5) X rfl (by decide) inX8 (by decide) wf_X8_22 (fun _ _ _ => rfl) (by decide +kernel) rfl) (
    okc (ok_putR (ci := 8) (kf := 3) (idx := 18) (C := RX8) (T := TX8) (N := 5) (ty := .object "HatRank$Formula") X opsS_ok rfl (by decide) inX8 tyX8_ok nmX8 (by decide) wf_X8_18 rfl (fun _ _ _ => rfl) (by decide +kernel) (fun _ => rfl) (fun _ => rfl) (by decide +kernel) rfl) (
    okc (ok_aload_n (j := 0) X (by decide +kernel) rfl rfl) (
    okc (ok_aload_n (j := 2) X (by decide +kernel) rfl rfl) (
    okc (ok_putR (ci := 8) (kf := 4) (idx := 22) (C := RX8) (T := TX8) (N := 5) (ty := .object "HatRank$Formula") X opsS_ok rfl (by decide) inX8 tyX8_ok nmX8 (by decide) wf_X8_22 rfl (fun _ _ _ => rfl) (by decide +kernel) (fun _ => rfl) (fun _ => rfl) (by decide +kernel) rfl) (
    okc (ok_aload_n (j := 0) X (by decide +kernel) rfl rfl) (
    okc (ok_iconst (n := 0) X (by decide +kernel) rfl rfl) (
    okc (ok_putI (ci := 8) (kf := 0) (idx := 25) (C := RX8) (T := TX8) (N := 5) X opsS_ok rfl (by decide) inX8 tyX8_ok nmX8 (by decide) wf_X8_25 rfl (fun _ _ _ => rfl) (by decide +kernel) (by decide +kernel) rfl) (
    okc (ok_iload_n (j := 1) X (by decide +kernel) rfl rfl) (
    okc (ok_iret hret (by decide +kernel)) (
    okn)))))))))))))))))))))))))))))))
noncomputable def es_X8_becomeLaw  : List (Nat × En) := [(21, en_X3_clear), (68, en_X8_readLines)]
set_option maxRecDepth 100000 in
set_option maxHeartbeats 4000000 in
theorem eq_X8_becomeLaw    (s : SS) : ex (tb_X8_becomeLaw (calE (es_X8_becomeLaw))) rI [] (fun _ _ _ _ => none) 33 0 [some (.ref 11), none, none] [] s = f_X8_becomeLaw  s := by
  rfl
set_option maxRecDepth 100000 in
set_option maxHeartbeats 4000000 in
theorem run_X8_becomeLaw {l : Launch} {G : Gm}    (s : SS) (q : (Int32 × SS)) (h : f_X8_becomeLaw  s = some q) (D' : Nat) (hD : 107 ≤ D') : RunsM l G (D' + 1) (md 66) (embS s) [.ref 11] (some (.int q.1)) (embS q.2) := by
  rw [md_X8_becomeLaw]
  refine runs_I (plainFor_of_name (by decide +kernel)) (Nat.le_of_ble_eq_true rfl) rfl ?_
  intro A p e R s0 m args below meth c Q ad0 hR X hret
  have X : Cx G A RX8 cX8_becomeLaw 3 p s0 m args c := X
  have hT := tk_X8_becomeLaw X (calE_ok (es := es_X8_becomeLaw) (enc (en_X3_clear_ok _ (by omega)) (enc (en_X8_readLines_ok _ (by omega)) (enn)))) (rmD rfl hR) hret
  rw [← eq_X8_becomeLaw    s] at h
  refine ex_good hT (fun pc' ls' st' x' hh => ?_) 33 0 _ [] s h
  cases hh

noncomputable def en_X8_becomeLaw  : En := fun _ av s k => match av with
  | [.ref r0] => (gd (Nat.beq r0 11) (bI (f_X8_becomeLaw  s) k))
  | _ => none
set_option maxRecDepth 100000 in
set_option maxHeartbeats 4000000 in
theorem en_X8_becomeLaw_ok {l : Launch} {G : Gm} (D : Nat) (hD : 108 ≤ D) : enOK l G D 66 en_X8_becomeLaw := by
  intro ρ av x k r h
  unfold en_X8_becomeLaw at h
  split at h
  · obtain ⟨g0, h⟩ := gd_some h
    obtain ⟨q, h1, h2⟩ := bind_of h
    have e0 := beq1 g0
    subst e0
    obtain ⟨D', rfl⟩ : ∃ D', D = D' + 1 := ⟨D - 1, by omega⟩
    exact ⟨_, _, h2, run_X8_becomeLaw   _ _ h1 D' (by omega)⟩
  · cases h

