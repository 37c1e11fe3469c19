/-! HatRank$Changes dropOldest -/
noncomputable def tb_X1_dropOldest (cal : Cal SS) : List (Nat × Ins SS) := [(0, e_aload 0 1), (1, e_getR opsS 1 2 4), (4, e_iconst (1) 5), (5, e_aload 0 6), (6, e_getR opsS 1 2 9), (9, e_iconst (0) 10), (10, e_iconst (39) 12), (12, e_copyI opsS 15), (15, e_aload 0 16), (16, e_getR opsS 1 3 19), (19, e_iconst (1) 20), (20, e_aload 0 21), (21, e_getR opsS 1 3 24), (24, e_iconst (0) 25), (25, e_iconst (39) 27), (27, e_copyI opsS 30), (30, e_aload 0 31), (31, e_getR opsS 1 4 34), (34, e_iconst (1) 35), (35, e_aload 0 36), (36, e_getR opsS 1 4 39), (39, e_iconst (0) 40), (40, e_iconst (39) 42), (42, e_copyI opsS 45), (45, e_aload 0 46), (46, e_getR opsS 1 5 49), (49, e_iconst (1) 50), (50, e_aload 0 51), (51, e_getR opsS 1 5 54), (54, e_iconst (0) 55), (55, e_iconst (39) 57), (57, e_copyI opsS 60), (60, e_aload 0 61), (61, e_iconst (39) 63), (63, e_putI opsS 1 0 66), (66, e_vret)]
set_option maxRecDepth 100000 in
set_option maxHeartbeats 4000000 in
theorem tk_X1_dropOldest {ad0 : Nat → Nat} {G : Gm} {A : Nat → Prop} {p : Program} {l : Launch} {e : Env} {R : Room} {s0 : State} {m : MethodId} {args : Array Value} {below : List Frame} {meth : Method} {c : Code} {Q : State → Prop} {ρ : Type} {ret : Option Value → SS → Option ρ} {r : ρ} (X : Cx G A RX1 cX1_dropOldest 1 p s0 m args c) {D' : Nat} {cal : Cal SS} (hcal : calOK l G opsS D' cal) (hRm : ∀ k, k ≤ 21 → D' + 1 ≤ R.frames ∧ 8 + (k + 11) + 40 * D' ≤ R.locals) (hret : RetK G A cX1_dropOldest 113 6344 ad0 p l e R s0 m args below meth c Q opsS ret r .return_ okV) : ∀ q ∈ tb_X1_dropOldest cal, OKi G A 1 113 6344 ad0 p l e R s0 m args below meth c Q opsS ret r q.1 q.2 :=
    okc (ok_aload_n (j := 0) X (by decide +kernel) rfl rfl) (
    okc (ok_getR (ci := 1) (kf := 2) (idx := 11) (C := RX1) (T := TX1) (N := 6) X rfl (by decide) inX1 (by decide) wf_X1_11 (fun _ _ _ => rfl) (by decide +kernel) rfl) (
    okc (ok_iconst (n := 1) X (by decide +kernel) rfl rfl) (
    okc (ok_aload_n (j := 0) X (by decide +kernel) rfl rfl) (
    okc (ok_getR (ci := 1) (kf := 2) (idx := 11) (C := RX1) (T := TX1) (N := 6) X rfl (by decide) inX1 (by decide) wf_X1_11 (fun _ _ _ => rfl) (by decide +kernel) rfl) (
    okc (ok_iconst (n := 0) X (by decide +kernel) rfl rfl) (
    okc (ok_bipush (n := 39) X (by decide +kernel) rfl rfl) (
    okc (ok_copyI X opsS_ok wl_X1_40 wn_arraycopy ws_arraycopy wi_J10 (rm26 hRm) (by decide +kernel) rfl) (
    okc (ok_aload_n (j := 0) X (by decide +kernel) rfl rfl) (
    okc (ok_getR (ci := 1) (kf := 3) (idx := 15) (C := RX1) (T := TX1) (N := 6) X rfl (by decide) inX1 (by decide) wf_X1_15 (fun _ _ _ => rfl) (by decide +kernel) rfl) (
    okc (ok_iconst (n := 1) X (by decide +kernel) rfl rfl) (
    okc (ok_aload_n (j := 0) X (by decide +kernel) rfl rfl) (
    okc (ok_getR (ci := 1) (kf := 3) (idx := 15) (C := RX1) (T := TX1) (N := 6) X rfl (by decide) inX1 (by decide) wf_X1_15 (fun _ _ _ => rfl) (by decide +kernel) rfl) (
    okc (ok_iconst (n := 0) X (by decide +kernel) rfl rfl) (
    okc (ok_bipush (n := 39) X (by decide +kernel) rfl rfl) (
    okc (ok_copyI X opsS_ok wl_X1_40 wn_arraycopy ws_arraycopy wi_J10 (rm26 hRm) (by decide +kernel) rfl) (
    okc (ok_aload_n (j := 0) X (by decide +kernel) rfl rfl) (
    okc (ok_getR (ci := 1) (kf := 4) (idx := 18) (C := RX1) (T := TX1) (N := 6) X rfl (by decide) inX1 (by decide) wf_X1_18 (fun _ _ _ => rfl) (by decide +kernel) rfl) (
    okc (ok_iconst (n := 1) X (by decide +kernel) rfl rfl) (
    okc (ok_aload_n (j := 0) X (by decide +kernel) rfl rfl) (
    okc (ok_getR (ci := 1) (kf := 4) (idx := 18) (C := RX1) (T := TX1) (N := 6) X rfl (by decide) inX1 (by decide) wf_X1_18 (fun _ _ _ => rfl) (by decide +kernel) rfl) (
    okc (ok_iconst (n := 0) X (by decide +kernel) rfl rfl) (
    okc (ok_bipush (n := 39) X (by decide +kernel) rfl rfl) (
    okc (ok_copyI X opsS_ok wl_X1_40 wn_arraycopy ws_arraycopy wi_J10 (rm26 hRm) (by decide +kernel) rfl) (
    okc (ok_aload_n (j := 0) X (by decide +kernel) rfl rfl) (
    okc (ok_getR (ci := 1) (kf := 5) (idx := 21) (C := RX1) (T := TX1) (N := 6) X rfl (by decide) inX1 (by decide) wf_X1_21 (fun _ _ _ => rfl) (by decide +kernel) rfl) (
    okc (ok_iconst (n := 1) X (by decide +kernel) rfl rfl) (
    okc (ok_aload_n (j := 0) X (by decide +kernel) rfl rfl) (
    okc (ok_getR (ci := 1) (kf := 5) (idx := 21) (C := RX1) (T := TX1) (N := 6) X rfl (by decide) inX1 (by decide) wf_X1_21 (fun _ _ _ => rfl) (by decide +kernel) rfl) (
    okc (ok_iconst (n := 0) X (by decide +kernel) rfl rfl) (
    okc (ok_bipush (n := 39) X (by decide +kernel) rfl rfl) (
    okc (ok_copyI X opsS_ok wl_X1_40 wn_arraycopy ws_arraycopy wi_J10 (rm26 hRm) (by decide +kernel) rfl) (
    okc (ok_aload_n (j := 0) X (by decide +kernel) rfl rfl) (
    okc (ok_bipush (n := 39) X (by decide +kernel) rfl rfl) (
    okc (ok_putI (ci := 1) (kf := 0) (idx := 24) (C := RX1) (T := TX1) (N := 6) X opsS_ok rfl (by decide) inX1 tyX1_ok nmX1 (by decide) wf_X1_24 rfl (fun _ _ _ => rfl) (by decide +kernel) (by decide +kernel) rfl) (
    okc (ok_vret hret (by decide +kernel)) (
    okn))))))))))))))))))))))))))))))))))))
noncomputable def es_X1_dropOldest  : List (Nat × En) := []
set_option maxRecDepth 100000 in
set_option maxHeartbeats 4000000 in
theorem eq_X1_dropOldest    (s : SS) : ex (tb_X1_dropOldest (calE (es_X1_dropOldest))) rV [] (fun _ _ _ _ => none) 38 0 [some (.ref 50)] [] s = f_X1_dropOldest  s := by
  rfl
set_option maxRecDepth 100000 in
set_option maxHeartbeats 4000000 in
theorem run_X1_dropOldest {l : Launch} {G : Gm}    (s : SS) (q : SS) (h : f_X1_dropOldest  s = some q) (D' : Nat) (hD : 0 ≤ D') : RunsM l G (D' + 1) (md 16) (embS s) [.ref 50] none (embS q) := by
  rw [md_X1_dropOldest]
  refine runs_V (plainFor_of_name (by decide +kernel)) (Nat.le_of_ble_eq_true rfl) rfl ?_
  intro A p e R s0 m args below meth c Q ad0 hR X hret
  have X : Cx G A RX1 cX1_dropOldest 1 p s0 m args c := X
  have hT := tk_X1_dropOldest X (calE_ok (es := es_X1_dropOldest) (enn)) (rmD rfl hR) hret
  rw [← eq_X1_dropOldest    s] at h
  refine ex_good hT (fun pc' ls' st' x' hh => ?_) 38 0 _ [] s h
  cases hh

noncomputable def en_X1_dropOldest  : En := fun _ av s k => match av with
  | [.ref r0] => (gd (Nat.beq r0 50) (bV (f_X1_dropOldest  s) k))
  | _ => none
set_option maxRecDepth 100000 in
set_option maxHeartbeats 4000000 in
theorem en_X1_dropOldest_ok {l : Launch} {G : Gm} (D : Nat) (hD : 1 ≤ D) : enOK l G D 16 en_X1_dropOldest := by
  intro ρ av x k r h
  unfold en_X1_dropOldest at h
  split at h
  · obtain ⟨g0, h⟩ := gd_some h
    obtain ⟨q, h1, h2⟩ := bind_of h
    have e0 := beq1 g0
    subst e0
    obtain ⟨D', rfl⟩ : ∃ D', D = D' + 1 := ⟨D - 1, by omega⟩
    exact ⟨_, _, h2, run_X1_dropOldest   _ _ h1 D' (by omega)⟩
  · cases h

/-! HatRank$Changes note -/
noncomputable def tb_X1_note (cal : Cal SS) : List (Nat × Ins SS) := [(0, e_aload 0 1), (1, e_getI opsS 1 0 4), (4, e_iconst (40) 6), (6, e_clt 13 9), (9, e_aload 0 10), (10, e_callV opsS cal 16 0 1 13), (13, e_aload 0 14), (14, e_getR opsS 1 2 17), (17, e_aload 0 18), (18, e_getI opsS 1 0 21), (21, e_iload 1 22), (22, e_ast opsS 100 (fun v => v) 23), (23, e_aload 0 24), (24, e_getR opsS 1 3 27), (27, e_aload 0 28), (28, e_getI opsS 1 0 31), (31, e_iload 2 32), (32, e_ast opsS 100 (fun v => v) 33), (33, e_aload 0 34), (34, e_getR opsS 1 4 37), (37, e_aload 0 38), (38, e_getI opsS 1 0 41), (41, e_iload 3 42), (42, e_ast opsS 100 (fun v => v) 43), (43, e_aload 0 44), (44, e_getR opsS 1 5 47), (47, e_aload 0 48), (48, e_getI opsS 1 0 51), (51, e_iload 4 53), (53, e_ast opsS 100 (fun v => v) 54), (54, e_aload 0 55), (55, e_dup 56), (56, e_getI opsS 1 0 59), (59, e_iconst (1) 60), (60, e_bin aAdd 61), (61, e_putI opsS 1 0 64), (64, e_aload 0 65), (65, e_aload 0 66), (66, e_getI opsS 1 0 69), (69, e_putI opsS 1 1 72), (72, e_vret)]
set_option maxRecDepth 100000 in
set_option maxHeartbeats 4000000 in
theorem tk_X1_note {ad0 : Nat → Nat} {G : Gm} {A : Nat → Prop} {p : Program} {l : Launch} {e : Env} {R : Room} {s0 : State} {m : MethodId} {args : Array Value} {below : List Frame} {meth : Method} {c : Code} {Q : State → Prop} {ρ : Type} {ret : Option Value → SS → Option ρ} {r : ρ} (X : Cx G A RX1 cX1_note 5 p s0 m args c) {D' : Nat} {cal : Cal SS} (hcal : calOK l G opsS D' cal) (hRm : ∀ k, k ≤ 21 → D' + 1 ≤ R.frames ∧ 8 + (k + 11) + 40 * D' ≤ R.locals) (hret : RetK G A cX1_note 113 6344 ad0 p l e R s0 m args below meth c Q opsS ret r .return_ okV) : ∀ q ∈ tb_X1_note cal, OKi G A 5 113 6344 ad0 p l e R s0 m args below meth c Q opsS ret r q.1 q.2 :=
    okc (ok_aload_n (j := 0) X (by decide +kernel) rfl rfl) (
    okc (ok_getI (ci := 1) (kf := 0) (idx := 24) (C := RX1) (T := TX1) (N := 6) X rfl (by decide) inX1 (by decide) wf_X1_24 (fun _ _ _ => rfl) (by decide +kernel) rfl) (
    okc (ok_bipush (n := 40) X (by decide +kernel) rfl rfl) (
    okc (ok_clt (off := 7) X (by decide +kernel) (by decide) rfl) (
    okc (ok_aload_n (j := 0) X (by decide +kernel) rfl rfl) (
    okc (ok_callV (ci := 1) (C := RX1) (T := TX1) (N := 6) (Y := (yX1_dropOldest, cX1_dropOldest, 1, none)) X hcal opsS_n md_X1_dropOldest rfl (by decide) rfl wc_X1_dropOldest wl_X1_28 wi_X1 wm_X1_dropOldest wv_X1_dropOldest (by decide +kernel) (hRm 1 (by decide)) (by decide +kernel) rfl) (
    okc (ok_aload_n (j := 0) X (by decide +kernel) rfl rfl) (
    okc (ok_getR (ci := 1) (kf := 2) (idx := 11) (C := RX1) (T := TX1) (N := 6) X rfl (by decide) inX1 (by decide) wf_X1_11 (fun _ _ _ => rfl) (by decide +kernel) rfl) (
    okc (ok_aload_n (j := 0) X (by decide +kernel) rfl rfl) (
    okc (ok_getI (ci := 1) (kf := 0) (idx := 24) (C := RX1) (T := TX1) (N := 6) X rfl (by decide) inX1 (by decide) wf_X1_24 (fun _ _ _ => rfl) (by decide +kernel) rfl) (
    okc (ok_iload_n (j := 1) X (by decide +kernel) rfl rfl) (
    okc (ok_iast X opsS_ok (by decide +kernel) rfl) (
    okc (ok_aload_n (j := 0) X (by decide +kernel) rfl rfl) (
    okc (ok_getR (ci := 1) (kf := 3) (idx := 15) (C := RX1) (T := TX1) (N := 6) X rfl (by decide) inX1 (by decide) wf_X1_15 (fun _ _ _ => rfl) (by decide +kernel) rfl) (
    okc (ok_aload_n (j := 0) X (by decide +kernel) rfl rfl) (
    okc (ok_getI (ci := 1) (kf := 0) (idx := 24) (C := RX1) (T := TX1) (N := 6) X rfl (by decide) inX1 (by decide) wf_X1_24 (fun _ _ _ => rfl) (by decide +kernel) rfl) (
    okc (ok_iload_n (j := 2) X (by decide +kernel) rfl rfl) (
    okc (ok_iast X opsS_ok (by decide +kernel) rfl) (
    okc (ok_aload_n (j := 0) X (by decide +kernel) rfl rfl) (
    okc (ok_getR (ci := 1) (kf := 4) (idx := 18) (C := RX1) (T := TX1) (N := 6) X rfl (by decide) inX1 (by decide) wf_X1_18 (fun _ _ _ => rfl) (by decide +kernel) rfl) (
    okc (ok_aload_n (j := 0) X (by decide +kernel) rfl rfl) (
    okc (ok_getI (ci := 1) (kf := 0) (idx := 24) (C := RX1) (T := TX1) (N := 6) X rfl (by decide) inX1 (by decide) wf_X1_24 (fun _ _ _ => rfl) (by decide +kernel) rfl) (
    okc (ok_iload_n (j := 3) X (by decide +kernel) rfl rfl) (
    okc (ok_iast X opsS_ok (by decide +kernel) rfl) (
    okc (ok_aload_n (j := 0) X (by decide +kernel) rfl rfl) (
    okc (ok_getR (ci := 1) (kf := 5) (idx := 21) (C := RX1) (T := TX1) (N := 6) X rfl (by decide) inX1 (by decide) wf_X1_21 (fun _ _ _ => rfl) (by decide +kernel) rfl) (
    okc (ok_aload_n (j := 0) X (by decide +kernel) rfl rfl) (
    okc (ok_getI (ci := 1) (kf := 0) (idx := 24) (C := RX1) (T := TX1) (N := 6) X rfl (by decide) inX1 (by decide) wf_X1_24 (fun _ _ _ => rfl) (by decide +kernel) rfl) (
    okc (ok_iload X (by decide +kernel) rfl) (
    okc (ok_iast X opsS_ok (by decide +kernel) rfl) (
    okc (ok_aload_n (j := 0) X (by decide +kernel) rfl rfl) (
    okc (ok_dup X (by decide +kernel) rfl) (
    okc (ok_getI (ci := 1) (kf := 0) (idx := 24) (C := RX1) (T := TX1) (N := 6) X rfl (by decide) inX1 (by decide) wf_X1_24 (fun _ _ _ => rfl) (by decide +kernel) rfl) (
    okc (ok_iconst (n := 1) X (by decide +kernel) rfl rfl) (
    okc (ok_iadd X (by decide +kernel) rfl) (
    okc (ok_putI (ci := 1) (kf := 0) (idx := 24) (C := RX1) (T := TX1) (N := 6) X opsS_ok rfl (by decide) inX1 tyX1_ok nmX1 (by decide) wf_X1_24 rfl (fun _ _ _ => rfl) (by decide +kernel) (by decide +kernel) rfl) (
    okc (ok_aload_n (j := 0) X (by decide +kernel) rfl rfl) (
    okc (ok_aload_n (j := 0) X (by decide +kernel) rfl rfl) (
    okc (ok_getI (ci := 1) (kf := 0) (idx := 24) (C := RX1) (T := TX1) (N := 6) X rfl (by decide) inX1 (by decide) wf_X1_24 (fun _ _ _ => rfl) (by decide +kernel) rfl) (
    okc (ok_putI (ci := 1) (kf := 1) (idx := 31) (C := RX1) (T := TX1) (N := 6) X opsS_ok rfl (by decide) inX1 tyX1_ok nmX1 (by decide) wf_X1_31 rfl (fun _ _ _ => rfl) (by decide +kernel) (by decide +kernel) rfl) (
    okc (ok_vret hret (by decide +kernel)) (
    okn)))))))))))))))))))))))))))))))))))))))))
noncomputable def es_X1_note  : List (Nat × En) := [(16, en_X1_dropOldest)]
set_option maxRecDepth 100000 in
set_option maxHeartbeats 4000000 in
theorem eq_X1_note   (a0 : Int32) (a1 : Int32) (a2 : Int32) (a3 : Int32) (s : SS) : ex (tb_X1_note (calE (es_X1_note))) rV [] (fun _ _ _ _ => none) 43 0 [some (.ref 50), some (.int a0), some (.int a1), some (.int a2), some (.int a3)] [] s = f_X1_note a0 a1 a2 a3 s := by
  rfl
set_option maxRecDepth 100000 in
set_option maxHeartbeats 4000000 in
theorem run_X1_note {l : Launch} {G : Gm}   (a0 : Int32) (a1 : Int32) (a2 : Int32) (a3 : Int32) (s : SS) (q : SS) (h : f_X1_note a0 a1 a2 a3 s = some q) (D' : Nat) (hD : 1 ≤ D') : RunsM l G (D' + 1) (md 13) (embS s) [.ref 50, .int a0, .int a1, .int a2, .int a3] none (embS q) := by
  rw [md_X1_note]
  refine runs_V (plainFor_of_name (by decide +kernel)) (Nat.le_of_ble_eq_true rfl) rfl ?_
  intro A p e R s0 m args below meth c Q ad0 hR X hret
  have X : Cx G A RX1 cX1_note 5 p s0 m args c := X
  have hT := tk_X1_note X (calE_ok (es := es_X1_note) (enc (en_X1_dropOldest_ok _ (by omega)) (enn))) (rmD rfl hR) hret
  rw [← eq_X1_note   a0 a1 a2 a3 s] at h
  refine ex_good hT (fun pc' ls' st' x' hh => ?_) 43 0 _ [] s h
  cases hh

noncomputable def en_X1_note  : En := fun _ av s k => match av with
  | [.ref r0, .int a0, .int a1, .int a2, .int a3] => (gd (Nat.beq r0 50) (bV (f_X1_note a0 a1 a2 a3 s) k))
  | _ => none
set_option maxRecDepth 100000 in
set_option maxHeartbeats 4000000 in
theorem en_X1_note_ok {l : Launch} {G : Gm} (D : Nat) (hD : 2 ≤ D) : enOK l G D 13 en_X1_note := by
  intro ρ av x k r h
  unfold en_X1_note at h
  split at h
  · obtain ⟨g0, h⟩ := gd_some h
    obtain ⟨q, h1, h2⟩ := bind_of h
    have e0 := beq1 g0
    subst e0
    obtain ⟨D', rfl⟩ : ∃ D', D = D' + 1 := ⟨D - 1, by omega⟩
    exact ⟨_, _, h2, run_X1_note  _ _ _ _ _ _ h1 D' (by omega)⟩
  · cases h

/-! HatRank$Changes takeBack -/
noncomputable def tb_X1_takeBack (cal : Cal SS) : List (Nat × Ins SS) := [(0, e_aload 0 1), (1, e_getI opsS 1 0 4), (4, e_ifgt 10 7), (7, e_iconst (-5) 9), (9, e_iret), (10, e_aload 0 11), (11, e_dup 12), (12, e_getI opsS 1 0 15), (15, e_iconst (1) 16), (16, e_bin aSub 17), (17, e_putI opsS 1 0 20), (20, e_aload 1 21), (21, e_aload 0 22), (22, e_getR opsS 1 2 25), (25, e_aload 0 26), (26, e_getI opsS 1 0 29), (29, e_ald opsS 100 30), (30, e_aload 0 31), (31, e_getR opsS 1 3 34), (34, e_aload 0 35), (35, e_getI opsS 1 0 38), (38, e_ald opsS 100 39), (39, e_aload 0 40), (40, e_getR opsS 1 4 43), (43, e_aload 0 44), (44, e_getI opsS 1 0 47), (47, e_ald opsS 100 48), (48, e_callV opsS cal 85 3 9 51), (51, e_pop 52), (52, e_aload 0 53), (53, e_getI opsS 1 0 56), (56, e_iret)]
set_option maxRecDepth 100000 in
set_option maxHeartbeats 4000000 in
theorem tk_X1_takeBack {ad0 : Nat → Nat} {G : Gm} {A : Nat → Prop} {p : Program} {l : Launch} {e : Env} {R : Room} {s0 : State} {m : MethodId} {args : Array Value} {below : List Frame} {meth : Method} {c : Code} {Q : State → Prop} {ρ : Type} {ret : Option Value → SS → Option ρ} {r : ρ} (X : Cx G A RX1 cX1_takeBack 2 p s0 m args c) {D' : Nat} {cal : Cal SS} (hcal : calOK l G opsS D' cal) (hRm : ∀ k, k ≤ 21 → D' + 1 ≤ R.frames ∧ 8 + (k + 11) + 40 * D' ≤ R.locals) (hret : RetK G A cX1_takeBack 113 6344 ad0 p l e R s0 m args below meth c Q opsS ret r .ireturn okI) : ∀ q ∈ tb_X1_takeBack cal, OKi G A 2 113 6344 ad0 p l e R s0 m args below meth c Q opsS ret r q.1 q.2 :=
    okc (ok_aload_n (j := 0) X (by decide +kernel) rfl rfl) (
    okc (ok_getI (ci := 1) (kf := 0) (idx := 24) (C := RX1) (T := TX1) (N := 6) X rfl (by decide) inX1 (by decide) wf_X1_24 (fun _ _ _ => rfl) (by decide +kernel) rfl) (
    okc (ok_ifgt (off := 6) X (by decide +kernel) (by decide) rfl) (
    okc (ok_bipush (n := -5) X (by decide +kernel) rfl rfl) (
    okc (ok_iret hret (by decide +kernel)) (
    okc (ok_aload_n (j := 0) X (by decide +kernel) rfl rfl) (
    okc (ok_dup X (by decide +kernel) rfl) (
    okc (ok_getI (ci := 1) (kf := 0) (idx := 24) (C := RX1) (T := TX1) (N := 6) X rfl (by decide) inX1 (by decide) wf_X1_24 (fun _ _ _ => rfl) (by decide +kernel) rfl) (
    okc (ok_iconst (n := 1) X (by decide +kernel) rfl rfl) (
    okc (ok_isub X (by decide +kernel) rfl) (
    okc (ok_putI (ci := 1) (kf := 0) (idx := 24) (C := RX1) (T := TX1) (N := 6) X opsS_ok rfl (by decide) inX1 tyX1_ok nmX1 (by decide) wf_X1_24 rfl (fun _ _ _ => rfl) (by decide +kernel) (by decide +kernel) rfl) (
    okc (ok_aload_n (j := 1) X (by decide +kernel) rfl rfl) (
    okc (ok_aload_n (j := 0) X (by decide +kernel) rfl rfl) (
    okc (ok_getR (ci := 1) (kf := 2) (idx := 11) (C := RX1) (T := TX1) (N := 6) X rfl (by decide) inX1 (by decide) wf_X1_11 (fun _ _ _ => rfl) (by decide +kernel) rfl) (
    okc (ok_aload_n (j := 0) X (by decide +kernel) rfl rfl) (
    okc (ok_getI (ci := 1) (kf := 0) (idx := 24) (C := RX1) (T := TX1) (N := 6) X rfl (by decide) inX1 (by decide) wf_X1_24 (fun _ _ _ => rfl) (by decide +kernel) rfl) (
    okc (ok_iald X (by decide +kernel) rfl) (
    okc (ok_aload_n (j := 0) X (by decide +kernel) rfl rfl) (
    okc (ok_getR (ci := 1) (kf := 3) (idx := 15) (C := RX1) (T := TX1) (N := 6) X rfl (by decide) inX1 (by decide) wf_X1_15 (fun _ _ _ => rfl) (by decide +kernel) rfl) (
    okc (ok_aload_n (j := 0) X (by decide +kernel) rfl rfl) (
    okc (ok_getI (ci := 1) (kf := 0) (idx := 24) (C := RX1) (T := TX1) (N := 6) X rfl (by decide) inX1 (by decide) wf_X1_24 (fun _ _ _ => rfl) (by decide +kernel) rfl) (
    okc (ok_iald X (by decide +kernel) rfl) (
    okc (ok_aload_n (j := 0) X (by decide +kernel) rfl rfl) (
    okc (ok_getR (ci := 1) (kf := 4) (idx := 18) (C := RX1) (T := TX1) (N := 6) X rfl (by decide) inX1 (by decide) wf_X1_18 (fun _ _ _ => rfl) (by decide +kernel) rfl) (
    okc (ok_aload_n (j := 0) X (by decide +kernel) rfl rfl) (
    okc (ok_getI (ci := 1) (kf := 0) (idx := 24) (C := RX1) (T := TX1) (N := 6) X rfl (by decide) inX1 (by decide) wf_X1_24 (fun _ _ _ => rfl) (by decide +kernel) rfl) (
    okc (ok_iald X (by decide +kernel) rfl) (
    okc (ok_callV (ci := 9) (C := RX9) (T := TX9) (N := 8) (Y := (yX9_exchange, cX9_exchange, 6, (some .int))) X hcal opsS_n md_X9_exchange rfl (by decide) rfl wc_X9_exchange wl_X1_34 wi_X9 wm_X9_exchange wv_X9_exchange (by decide +kernel) (hRm 6 (by decide)) (by decide +kernel) rfl) (
    okc (ok_pop X (by decide +kernel) rfl) (
    okc (ok_aload_n (j := 0) X (by decide +kernel) rfl rfl) (
    okc (ok_getI (ci := 1) (kf := 0) (idx := 24) (C := RX1) (T := TX1) (N := 6) X rfl (by decide) inX1 (by decide) wf_X1_24 (fun _ _ _ => rfl) (by decide +kernel) rfl) (
    okc (ok_iret hret (by decide +kernel)) (
    okn))))))))))))))))))))))))))))))))
noncomputable def es_X1_takeBack  : List (Nat × En) := [(85, en_X9_exchange)]
set_option maxRecDepth 100000 in
set_option maxHeartbeats 4000000 in
theorem eq_X1_takeBack    (s : SS) : ex (tb_X1_takeBack (calE (es_X1_takeBack))) rI [] (fun _ _ _ _ => none) 34 0 [some (.ref 50), some (.ref 1)] [] s = f_X1_takeBack  s := by
  rfl
set_option maxRecDepth 100000 in
set_option maxHeartbeats 4000000 in
theorem run_X1_takeBack {l : Launch} {G : Gm}    (s : SS) (q : (Int32 × SS)) (h : f_X1_takeBack  s = some q) (D' : Nat) (hD : 2 ≤ D') : RunsM l G (D' + 1) (md 14) (embS s) [.ref 50, .ref 1] (some (.int q.1)) (embS q.2) := by
  rw [md_X1_takeBack]
  refine runs_I (plainFor_of_name (by decide +kernel)) (Nat.le_of_ble_eq_true rfl) rfl ?_
  intro A p e R s0 m args below meth c Q ad0 hR X hret
  have X : Cx G A RX1 cX1_takeBack 2 p s0 m args c := X
  have hT := tk_X1_takeBack X (calE_ok (es := es_X1_takeBack) (enc (en_X9_exchange_ok _ (by omega)) (enn))) (rmD rfl hR) hret
  rw [← eq_X1_takeBack    s] at h
  refine ex_good hT (fun pc' ls' st' x' hh => ?_) 34 0 _ [] s h
  cases hh

noncomputable def en_X1_takeBack  : En := fun _ av s k => match av with
  | [.ref r0, .ref r1] => (gd (Nat.beq r0 50) (gd (Nat.beq r1 1) (bI (f_X1_takeBack  s) k)))
  | _ => none
set_option maxRecDepth 100000 in
set_option maxHeartbeats 4000000 in
theorem en_X1_takeBack_ok {l : Launch} {G : Gm} (D : Nat) (hD : 3 ≤ D) : enOK l G D 14 en_X1_takeBack := by
  intro ρ av x k r h
  unfold en_X1_takeBack at h
  split at h
  · obtain ⟨g0, h⟩ := gd_some h
    obtain ⟨g1, h⟩ := gd_some h
    obtain ⟨q, h1, h2⟩ := bind_of h
    have e0 := beq1 g0
    subst e0
    have e1 := beq1 g1
    subst e1
    obtain ⟨D', rfl⟩ : ∃ D', D = D' + 1 := ⟨D - 1, by omega⟩
    exact ⟨_, _, h2, run_X1_takeBack   _ _ h1 D' (by omega)⟩
  · cases h

/-! HatRank$Changes makeAgain -/
noncomputable def tb_X1_makeAgain (cal : Cal SS) : List (Nat × Ins SS) := [(0, e_aload 0 1), (1, e_getI opsS 1 0 4), (4, e_aload 0 5), (5, e_getI opsS 1 1 8), (8, e_clt 14 11), (11, e_iconst (-5) 13), (13, e_iret), (14, e_aload 1 15), (15, e_aload 0 16), (16, e_getR opsS 1 2 19), (19, e_aload 0 20), (20, e_getI opsS 1 0 23), (23, e_ald opsS 100 24), (24, e_aload 0 25), (25, e_getR opsS 1 3 28), (28, e_aload 0 29), (29, e_getI opsS 1 0 32), (32, e_ald opsS 100 33), (33, e_aload 0 34), (34, e_getR opsS 1 5 37), (37, e_aload 0 38), (38, e_getI opsS 1 0 41), (41, e_ald opsS 100 42), (42, e_callV opsS cal 85 3 9 45), (45, e_pop 46), (46, e_aload 0 47), (47, e_dup 48), (48, e_getI opsS 1 0 51), (51, e_iconst (1) 52), (52, e_bin aAdd 53), (53, e_putI opsS 1 0 56), (56, e_aload 0 57), (57, e_getI opsS 1 1 60), (60, e_aload 0 61), (61, e_getI opsS 1 0 64), (64, e_bin aSub 65), (65, e_iret)]
set_option maxRecDepth 100000 in
set_option maxHeartbeats 4000000 in
theorem tk_X1_makeAgain {ad0 : Nat → Nat} {G : Gm} {A : Nat → Prop} {p : Program} {l : Launch} {e : Env} {R : Room} {s0 : State} {m : MethodId} {args : Array Value} {below : List Frame} {meth : Method} {c : Code} {Q : State → Prop} {ρ : Type} {ret : Option Value → SS → Option ρ} {r : ρ} (X : Cx G A RX1 cX1_makeAgain 2 p s0 m args c) {D' : Nat} {cal : Cal SS} (hcal : calOK l G opsS D' cal) (hRm : ∀ k, k ≤ 21 → D' + 1 ≤ R.frames ∧ 8 + (k + 11) + 40 * D' ≤ R.locals) (hret : RetK G A cX1_makeAgain 113 6344 ad0 p l e R s0 m args below meth c Q opsS ret r .ireturn okI) : ∀ q ∈ tb_X1_makeAgain cal, OKi G A 2 113 6344 ad0 p l e R s0 m args below meth c Q opsS ret r q.1 q.2 :=
    okc (ok_aload_n (j := 0) X (by decide +kernel) rfl rfl) (
    okc (ok_getI (ci := 1) (kf := 0) (idx := 24) (C := RX1) (T := TX1) (N := 6) X rfl (by decide) inX1 (by decide) wf_X1_24 (fun _ _ _ => rfl) (by decide +kernel) rfl) (
    okc (ok_aload_n (j := 0) X (by decide +kernel) rfl rfl) (
    okc (ok_getI (ci := 1) (kf := 1) (idx := 31) (C := RX1) (T := TX1) (N := 6) X rfl (by decide) inX1 (by decide) wf_X1_31 (fun _ _ _ => rfl) (by decide +kernel) rfl) (
    okc (ok_clt (off := 6) X (by decide +kernel) (by decide) rfl) (
    okc (ok_bipush (n := -5) X (by decide +kernel) rfl rfl) (
    okc (ok_iret hret (by decide +kernel)) (
    okc (ok_aload_n (j := 1) X (by decide +kernel) rfl rfl) (
    okc (ok_aload_n (j := 0) X (by decide +kernel) rfl rfl) (
    okc (ok_getR (ci := 1) (kf := 2) (idx := 11) (C := RX1) (T := TX1) (N := 6) X rfl (by decide) inX1 (by decide) wf_X1_11 (fun _ _ _ => rfl) (by decide +kernel) rfl) (
    okc (ok_aload_n (j := 0) X (by decide +kernel) rfl rfl) (
    okc (ok_getI (ci := 1) (kf := 0) (idx := 24) (C := RX1) (T := TX1) (N := 6) X rfl (by decide) inX1 (by decide) wf_X1_24 (fun _ _ _ => rfl) (by decide +kernel) rfl) (
    okc (ok_iald X (by decide +kernel) rfl) (
    okc (ok_aload_n (j := 0) X (by decide +kernel) rfl rfl) (
    okc (ok_getR (ci := 1) (kf := 3) (idx := 15) (C := RX1) (T := TX1) (N := 6) X rfl (by decide) inX1 (by decide) wf_X1_15 (fun _ _ _ => rfl) (by decide +kernel) rfl) (
    okc (ok_aload_n (j := 0) X (by decide +kernel) rfl rfl) (
    okc (ok_getI (ci := 1) (kf := 0) (idx := 24) (C := RX1) (T := TX1) (N := 6) X rfl (by decide) inX1 (by decide) wf_X1_24 (fun _ _ _ => rfl) (by decide +kernel) rfl) (
    okc (ok_iald X (by decide +kernel) rfl) (
    okc (ok_aload_n (j := 0) X (by decide +kernel) rfl rfl) (
    okc (ok_getR (ci := 1) (kf := 5) (idx := 21) (C := RX1) (T := TX1) (N := 6) X rfl (by decide) inX1 (by decide) wf_X1_21 (fun _ _ _ => rfl) (by decide +kernel) rfl) (
    okc (ok_aload_n (j := 0) X (by decide +kernel) rfl rfl) (
    okc (ok_getI (ci := 1) (kf := 0) (idx := 24) (C := RX1) (T := TX1) (N := 6) X rfl (by decide) inX1 (by decide) wf_X1_24 (fun _ _ _ => rfl) (by decide +kernel) rfl) (
    okc (ok_iald X (by decide +kernel) rfl) (
    okc (ok_callV (ci := 9) (C := RX9) (T := TX9) (N := 8) (Y := (yX9_exchange, cX9_exchange, 6, (some .int))) X hcal opsS_n md_X9_exchange rfl (by decide) rfl wc_X9_exchange wl_X1_34 wi_X9 wm_X9_exchange wv_X9_exchange (by decide +kernel) (hRm 6 (by decide)) (by decide +kernel) rfl) (
    okc (ok_pop X (by decide +kernel) rfl) (
    okc (ok_aload_n (j := 0) X (by decide +kernel) rfl rfl) (
    okc (ok_dup X (by decide +kernel) rfl) (
    okc (ok_getI (ci := 1) (kf := 0) (idx := 24) (C := RX1) (T := TX1) (N := 6) X rfl (by decide) inX1 (by decide) wf_X1_24 (fun _ _ _ => rfl) (by decide +kernel) rfl) (
    okc (ok_iconst (n := 1) X (by decide +kernel) rfl rfl) (
    okc (ok_iadd X (by decide +kernel) rfl) (
    okc (ok_putI (ci := 1) (kf := 0) (idx := 24) (C := RX1) (T := TX1) (N := 6) X opsS_ok rfl (by decide) inX1 tyX1_ok nmX1 (by decide) wf_X1_24 rfl (fun _ _ _ => rfl) (by decide +kernel) (by decide +kernel) rfl) (
    okc (ok_aload_n (j := 0) X (by decide +kernel) rfl rfl) (
    okc (ok_getI (ci := 1) (kf := 1) (idx := 31) (C := RX1) (T := TX1) (N := 6) X rfl (by decide) inX1 (by decide) wf_X1_31 (fun _ _ _ => rfl) (by decide +kernel) rfl) (
    okc (ok_aload_n (j := 0) X (by decide +kernel) rfl rfl) (
    okc (ok_getI (ci := 1) (kf := 0) (idx := 24) (C := RX1) (T := TX1) (N := 6) X rfl (by decide) inX1 (by decide) wf_X1_24 (fun _ _ _ => rfl) (by decide +kernel) rfl) (
    okc (ok_isub X (by decide +kernel) rfl) (
    okc (ok_iret hret (by decide +kernel)) (
    okn)))))))))))))))))))))))))))))))))))))
noncomputable def es_X1_makeAgain  : List (Nat × En) := [(85, en_X9_exchange)]
set_option maxRecDepth 100000 in
set_option maxHeartbeats 4000000 in
theorem eq_X1_makeAgain    (s : SS) : ex (tb_X1_makeAgain (calE (es_X1_makeAgain))) rI [] (fun _ _ _ _ => none) 39 0 [some (.ref 50), some (.ref 1)] [] s = f_X1_makeAgain  s := by
  rfl
set_option maxRecDepth 100000 in
set_option maxHeartbeats 4000000 in
theorem run_X1_makeAgain {l : Launch} {G : Gm}    (s : SS) (q : (Int32 × SS)) (h : f_X1_makeAgain  s = some q) (D' : Nat) (hD : 2 ≤ D') : RunsM l G (D' + 1) (md 15) (embS s) [.ref 50, .ref 1] (some (.int q.1)) (embS q.2) := by
  rw [md_X1_makeAgain]
  refine runs_I (plainFor_of_name (by decide +kernel)) (Nat.le_of_ble_eq_true rfl) rfl ?_
  intro A p e R s0 m args below meth c Q ad0 hR X hret
  have X : Cx G A RX1 cX1_makeAgain 2 p s0 m args c := X
  have hT := tk_X1_makeAgain X (calE_ok (es := es_X1_makeAgain) (enc (en_X9_exchange_ok _ (by omega)) (enn))) (rmD rfl hR) hret
  rw [← eq_X1_makeAgain    s] at h
  refine ex_good hT (fun pc' ls' st' x' hh => ?_) 39 0 _ [] s h
  cases hh

noncomputable def en_X1_makeAgain  : En := fun _ av s k => match av with
  | [.ref r0, .ref r1] => (gd (Nat.beq r0 50) (gd (Nat.beq r1 1) (bI (f_X1_makeAgain  s) k)))
  | _ => none
set_option maxRecDepth 100000 in
set_option maxHeartbeats 4000000 in
theorem en_X1_makeAgain_ok {l : Launch} {G : Gm} (D : Nat) (hD : 3 ≤ D) : enOK l G D 15 en_X1_makeAgain := by
  intro ρ av x k r h
  unfold en_X1_makeAgain at h
  split at h
  · obtain ⟨g0, h⟩ := gd_some h
    obtain ⟨g1, h⟩ := gd_some h
    obtain ⟨q, h1, h2⟩ := bind_of h
    have e0 := beq1 g0
    subst e0
    have e1 := beq1 g1
    subst e1
    obtain ⟨D', rfl⟩ : ∃ D', D = D' + 1 := ⟨D - 1, by omega⟩
    exact ⟨_, _, h2, run_X1_makeAgain   _ _ h1 D' (by omega)⟩
  · cases h

/-! HatRank$Day become -/
noncomputable def tb_X2_become (cal : Cal SS) : List (Nat × Ins SS) := [(0, e_aload 1 1), (1, e_getR opsS 2 0 4), (4, e_iconst (0) 5), (5, e_aload 0 6), (6, e_getR opsS 2 0 9), (9, e_iconst (0) 10), (10, e_iconst (6) 12), (12, e_copyI opsS 15), (15, e_aload 1 16), (16, e_getR opsS 2 1 19), (19, e_iconst (0) 20), (20, e_aload 0 21), (21, e_getR opsS 2 1 24), (24, e_iconst (0) 25), (25, e_iconst (6) 27), (27, e_copyI opsS 30), (30, e_aload 1 31), (31, e_getR opsS 2 2 34), (34, e_iconst (0) 35), (35, e_aload 0 36), (36, e_getR opsS 2 2 39), (39, e_iconst (0) 40), (40, e_iconst (7) 42), (42, e_copyI opsS 45), (45, e_aload 0 46), (46, e_aload 1 47), (47, e_getI opsS 2 3 50), (50, e_putI opsS 2 3 53), (53, e_vret)]
set_option maxRecDepth 100000 in
set_option maxHeartbeats 4000000 in
theorem tk_X2_become {ad0 : Nat → Nat} {G : Gm} {A : Nat → Prop} {p : Program} {l : Launch} {e : Env} {R : Room} {s0 : State} {m : MethodId} {args : Array Value} {below : List Frame} {meth : Method} {c : Code} {Q : State → Prop} {ρ : Type} {ret : Option Value → SS → Option ρ} {r : ρ} (X : Cx G A RX2 cX2_become 2 p s0 m args c) {D' : Nat} {cal : Cal SS} (hcal : calOK l G opsS D' cal) (hRm : ∀ k, k ≤ 21 → D' + 1 ≤ R.frames ∧ 8 + (k + 11) + 40 * D' ≤ R.locals) (hret : RetK G A cX2_become 113 6344 ad0 p l e R s0 m args below meth c Q opsS ret r .return_ okV) : ∀ q ∈ tb_X2_become cal, OKi G A 2 113 6344 ad0 p l e R s0 m args below meth c Q opsS ret r q.1 q.2 :=
    okc (ok_aload_n (j := 1) X (by decide +kernel) rfl rfl) (
    okc (ok_getR (ci := 2) (kf := 0) (idx := 9) (C := RX2) (T := TX2) (N := 4) X rfl (by decide) inX2 (by decide) wf_X2_9 (fun _ _ _ => rfl) (by decide +kernel) rfl) (
    okc (ok_iconst (n := 0) X (by decide +kernel) rfl rfl) (
    okc (ok_aload_n (j := 0) X (by decide +kernel) rfl rfl) (
    okc (ok_getR (ci := 2) (kf := 0) (idx := 9) (C := RX2) (T := TX2) (N := 4) X rfl (by decide) inX2 (by decide) wf_X2_9 (fun _ _ _ => rfl) (by decide +kernel) rfl) (
    okc (ok_iconst (n := 0) X (by decide +kernel) rfl rfl) (
    okc (ok_bipush (n := 6) X (by decide +kernel) rfl rfl) (
    okc (ok_copyI X opsS_ok wl_X2_21 wn_arraycopy ws_arraycopy wi_J10 (rm26 hRm) (by decide +kernel) rfl) (
    okc (ok_aload_n (j := 1) X (by decide +kernel) rfl rfl) (
    okc (ok_getR (ci := 2) (kf := 1) (idx := 15) (C := RX2) (T := TX2) (N := 4) X rfl (by decide) inX2 (by decide) wf_X2_15 (fun _ _ _ => rfl) (by decide +kernel) rfl) (
    okc (ok_iconst (n := 0) X (by decide +kernel) rfl rfl) (
    okc (ok_aload_n (j := 0) X (by decide +kernel) rfl rfl) (
    okc (ok_getR (ci := 2) (kf := 1) (idx := 15) (C := RX2) (T := TX2) (N := 4) X rfl (by decide) inX2 (by decide) wf_X2_15 (fun _ _ _ => rfl) (by decide +kernel) rfl) (
    okc (ok_iconst (n := 0) X (by decide +kernel) rfl rfl) (
    okc (ok_bipush (n := 6) X (by decide +kernel) rfl rfl) (
    okc (ok_copyI X opsS_ok wl_X2_21 wn_arraycopy ws_arraycopy wi_J10 (rm26 hRm) (by decide +kernel) rfl) (
    okc (ok_aload_n (j := 1) X (by decide +kernel) rfl rfl) (
    okc (ok_getR (ci := 2) (kf := 2) (idx := 18) (C := RX2) (T := TX2) (N := 4) X rfl (by decide) inX2 (by decide) wf_X2_18 (fun _ _ _ => rfl) (by decide +kernel) rfl) (
    okc (ok_iconst (n := 0) X (by decide +kernel) rfl rfl) (
    okc (ok_aload_n (j := 0) X (by decide +kernel) rfl rfl) (
    okc (ok_getR (ci := 2) (kf := 2) (idx := 18) (C := RX2) (T := TX2) (N := 4) X rfl (by decide) inX2 (by decide) wf_X2_18 (fun _ _ _ => rfl) (by decide +kernel) rfl) (
    okc (ok_iconst (n := 0) X (by decide +kernel) rfl rfl) (
    okc (ok_bipush (n := 7) X (by decide +kernel) rfl rfl) (
    okc (ok_copyI X opsS_ok wl_X2_21 wn_arraycopy ws_arraycopy wi_J10 (rm26 hRm) (by decide +kernel) rfl) (
    okc (ok_aload_n (j := 0) X (by decide +kernel) rfl rfl) (
    okc (ok_aload_n (j := 1) X (by decide +kernel) rfl rfl) (
    okc (ok_getI (ci := 2) (kf := 3) (idx := 27) (C := RX2) (T := TX2) (N := 4) X rfl (by decide) inX2 (by decide) wf_X2_27 (fun _ _ _ => rfl) (by decide +kernel) rfl) (
    okc (ok_putI (ci := 2) (kf := 3) (idx := 27) (C := RX2) (T := TX2) (N := 4) X opsS_ok rfl (by decide) inX2 tyX2_ok nmX2 (by decide) wf_X2_27 rfl (fun _ _ _ => rfl) (by decide +kernel) (by decide +kernel) rfl) (
    okc (ok_vret hret (by decide +kernel)) (
    okn)))))))))))))))))))))))))))))
noncomputable def es_X2_become  : List (Nat × En) := []
set_option maxRecDepth 100000 in
set_option maxHeartbeats 4000000 in
theorem eq_X2_become (d : Nat) (o : Nat) (hd : (Nat.beq d 70 || Nat.beq d 30 || Nat.beq d 35 || Nat.beq d 40 || Nat.beq d 44) = true) (ho : (Nat.beq o 7 || Nat.beq o 35 || Nat.beq o 40 || Nat.beq o 44) = true)  (s : SS) : ex (tb_X2_become (calE (es_X2_become))) rV [] (fun _ _ _ _ => none) 31 0 [some (.ref d), some (.ref o)] [] s = f_X2_become d o s := by
  rcases beq5 hd with rfl | rfl | rfl | rfl | rfl <;> rcases beq4 ho with rfl | rfl | rfl | rfl <;> rfl
set_option maxRecDepth 100000 in
set_option maxHeartbeats 4000000 in
theorem run_X2_become {l : Launch} {G : Gm} {d : Nat} {o : Nat} (hd : (Nat.beq d 70 || Nat.beq d 30 || Nat.beq d 35 || Nat.beq d 40 || Nat.beq d 44) = true) (ho : (Nat.beq o 7 || Nat.beq o 35 || Nat.beq o 40 || Nat.beq o 44) = true)  (s : SS) (q : SS) (h : f_X2_become d o s = some q) (D' : Nat) (hD : 0 ≤ D') : RunsM l G (D' + 1) (md 18) (embS s) [.ref d, .ref o] none (embS q) := by
  rw [md_X2_become]
  refine runs_V (plainFor_of_name (by decide +kernel)) (Nat.le_of_ble_eq_true rfl) rfl ?_
  intro A p e R s0 m args below meth c Q ad0 hR X hret
  have X : Cx G A RX2 cX2_become 2 p s0 m args c := X
  have hT := tk_X2_become X (calE_ok (es := es_X2_become) (enn)) (rmD rfl hR) hret
  rw [← eq_X2_become d o hd ho  s] at h
  refine ex_good hT (fun pc' ls' st' x' hh => ?_) 31 0 _ [] s h
  cases hh

noncomputable def en_X2_become  : En := fun _ av s k => match av with
  | [.ref d, .ref o] => (gd (Nat.beq d 70 || Nat.beq d 30 || Nat.beq d 35 || Nat.beq d 40 || Nat.beq d 44) (gd (Nat.beq o 7 || Nat.beq o 35 || Nat.beq o 40 || Nat.beq o 44) (bV (f_X2_become d o s) k)))
  | _ => none
set_option maxRecDepth 100000 in
set_option maxHeartbeats 4000000 in
theorem en_X2_become_ok {l : Launch} {G : Gm} (D : Nat) (hD : 1 ≤ D) : enOK l G D 18 en_X2_become := by
  intro ρ av x k r h
  unfold en_X2_become at h
  split at h
  · obtain ⟨g0, h⟩ := gd_some h
    obtain ⟨g1, h⟩ := gd_some h
    obtain ⟨q, h1, h2⟩ := bind_of h
    obtain ⟨D', rfl⟩ : ∃ D', D = D' + 1 := ⟨D - 1, by omega⟩
    exact ⟨_, _, h2, run_X2_become g0 g1  _ _ h1 D' (by omega)⟩
  · cases h

/-! HatRank$Day allLying -/
noncomputable def tb_X2_allLying (cal : Cal SS) : List (Nat × Ins SS) := [(0, e_iconst (0) 1), (1, e_istore 1 2), (2, e_iconst (0) 3), (3, e_istore 2 4), (4, e_iload 2 5), (5, e_iconst (7) 7), (7, e_cge 25 10), (10, e_iload 1 11), (11, e_aload 0 12), (12, e_getR opsS 2 2 15), (15, e_iload 2 16), (16, e_ald opsS 100 17), (17, e_bin aAdd 18), (18, e_istore 1 19), (19, e_iinc 2 (1) 22), (22, e_goto 4), (25, e_iload 1 26), (26, e_iret)]
set_option maxRecDepth 100000 in
set_option maxHeartbeats 4000000 in
theorem tk_X2_allLying {ad0 : Nat → Nat} {G : Gm} {A : Nat → Prop} {p : Program} {l : Launch} {e : Env} {R : Room} {s0 : State} {m : MethodId} {args : Array Value} {below : List Frame} {meth : Method} {c : Code} {Q : State → Prop} {ρ : Type} {ret : Option Value → SS → Option ρ} {r : ρ} (X : Cx G A RX2 cX2_allLying 3 p s0 m args c) {D' : Nat} {cal : Cal SS} (hcal : calOK l G opsS D' cal) (hRm : ∀ k, k ≤ 21 → D' + 1 ≤ R.frames ∧ 8 + (k + 11) + 40 * D' ≤ R.locals) (hret : RetK G A cX2_allLying 113 6344 ad0 p l e R s0 m args below meth c Q opsS ret r .ireturn okI) : ∀ q ∈ tb_X2_allLying cal, OKi G A 3 113 6344 ad0 p l e R s0 m args below meth c Q opsS ret r q.1 q.2 :=
    okc (ok_iconst (n := 0) X (by decide +kernel) rfl rfl) (
    okc (ok_istore_n (j := 1) X (by decide +kernel) rfl rfl) (
    okc (ok_iconst (n := 0) X (by decide +kernel) rfl rfl) (
    okc (ok_istore_n (j := 2) X (by decide +kernel) rfl rfl) (
    okc (ok_iload_n (j := 2) X (by decide +kernel) rfl rfl) (
    okc (ok_bipush (n := 7) X (by decide +kernel) rfl rfl) (
    okc (ok_cge (off := 18) X (by decide +kernel) (by decide) rfl) (
    okc (ok_iload_n (j := 1) X (by decide +kernel) rfl rfl) (
    okc (ok_aload_n (j := 0) X (by decide +kernel) rfl rfl) (
    okc (ok_getR (ci := 2) (kf := 2) (idx := 18) (C := RX2) (T := TX2) (N := 4) X rfl (by decide) inX2 (by decide) wf_X2_18 (fun _ _ _ => rfl) (by decide +kernel) rfl) (
    okc (ok_iload_n (j := 2) X (by decide +kernel) rfl rfl) (
    okc (ok_iald X (by decide +kernel) rfl) (
    okc (ok_iadd X (by decide +kernel) rfl) (
    okc (ok_istore_n (j := 1) X (by decide +kernel) rfl rfl) (
    okc (ok_iinc (n := 1) X (by decide +kernel) rfl rfl) (
    okc (ok_goto (off := -18) X (by decide +kernel) (by decide)) (
    okc (ok_iload_n (j := 1) X (by decide +kernel) rfl rfl) (
    okc (ok_iret hret (by decide +kernel)) (
    okn))))))))))))))))))
noncomputable def es_X2_allLying  : List (Nat × En) := []
noncomputable def ka_X2_allLying_4 (d : Nat)  (n : Nat) : Kn SS (Int32 × SS) := fun pc ls st s => bif Nat.beq pc 4 then (match ls, st with
    | [some y0, some (.int x1), some (.int x2)], [] => (gd (veq y0 (.ref d)) (F_X2_allLying_4 d n x1 x2 s))
    | _, _ => none) else (none)
set_option maxRecDepth 100000 in
set_option maxHeartbeats 4000000 in
theorem eq_X2_allLying_4 (d : Nat)  (hd : (Nat.beq d 30) = true) (n : Nat) (x1 : Int32) (x2 : Int32) (s : SS) : ex (tb_X2_allLying (calE (es_X2_allLying))) rI [4] (ka_X2_allLying_4 d  n) 20 4 [some (.ref d), some (.int x1), some (.int x2)] [] s = F_X2_allLying_4 d  (n + 1) x1 x2 s := by
  rcases beq1 hd with rfl <;> rfl
set_option maxRecDepth 100000 in
set_option maxHeartbeats 4000000 in
theorem gd_X2_allLying_4 {ad0 : Nat → Nat} {G : Gm} {A : Nat → Prop} {p : Program} {l : Launch} {e : Env} {R : Room} {s0 : State} {m : MethodId} {args : Array Value} {below : List Frame} {meth : Method} {c : Code} {Q : State → Prop} {r : (Int32 × SS)} {d : Nat}  (hT : ∀ q ∈ tb_X2_allLying (calE (es_X2_allLying)), OKi G A 3 113 6344 ad0 p l e R s0 m args below meth c Q opsS rI r q.1 q.2)  (hd : (Nat.beq d 30) = true) : ∀ (n : Nat) (x1 : Int32) (x2 : Int32) (s : SS), F_X2_allLying_4 d  n x1 x2 s = some r → Gd G A 3 113 6344 ad0 p l e R s0 m args below meth c Q opsS 4 [some (.ref d), some (.int x1), some (.int x2)] [] s := by
  intro n
  induction n with
  | zero =>
    intro x1 x2 s hh
    exact absurd (show (none : Option (Int32 × SS)) = some r from hh) (by simp)
  | succ n ih =>
    intro x1 x2 s hh
    rw [← eq_X2_allLying_4 d  hd n x1 x2 s] at hh
    refine ex_good hT (fun pc' ls' st' x' hh => ?_) 20 4 _ [] s hh
    unfold ka_X2_allLying_4 at hh
    cases hb : Nat.beq pc' 4 with
    | true =>
      rw [hb] at hh
      have e9 := beq1 hb
      subst e9
      simp only [cond_true] at hh
      split at hh
      · obtain ⟨g0, hh1⟩ := gd_some hh
        have e0 := veq_of g0
        subst e0
        exact Gd.wk (ih _ _ _ hh1) (Lle.eq (Lle.eq (Lle.eq Lle.nil)))
      · cases hh
    | false =>
      rw [hb] at hh
      simp only [cond_false] at hh
      cases hh

noncomputable def ka_X2_allLying (d : Nat) : Kn SS (Int32 × SS) := fun pc ls st s => bif Nat.beq pc 4 then (match ls, st with
    | [some y0, some (.int x1), some (.int x2)], [] => (gd (veq y0 (.ref d)) (F_X2_allLying_4 d fuel0 x1 x2 s))
    | _, _ => none) else (none)
set_option maxRecDepth 100000 in
set_option maxHeartbeats 4000000 in
theorem eq_X2_allLying (d : Nat) (hd : (Nat.beq d 30) = true)  (s : SS) : ex (tb_X2_allLying (calE (es_X2_allLying))) rI [4] (ka_X2_allLying d) 20 0 [some (.ref d), none, none] [] s = f_X2_allLying d s := by
  rcases beq1 hd with rfl <;> rfl
set_option maxRecDepth 100000 in
set_option maxHeartbeats 4000000 in
theorem run_X2_allLying {l : Launch} {G : Gm} {d : Nat} (hd : (Nat.beq d 30) = true)  (s : SS) (q : (Int32 × SS)) (h : f_X2_allLying d s = some q) (D' : Nat) (hD : 0 ≤ D') : RunsM l G (D' + 1) (md 19) (embS s) [.ref d] (some (.int q.1)) (embS q.2) := by
  rw [md_X2_allLying]
  refine runs_I (plainFor_of_name (by decide +kernel)) (Nat.le_of_ble_eq_true rfl) rfl ?_
  intro A p e R s0 m args below meth c Q ad0 hR X hret
  have X : Cx G A RX2 cX2_allLying 3 p s0 m args c := X
  have hT := tk_X2_allLying X (calE_ok (es := es_X2_allLying) (enn)) (rmD rfl hR) hret
  rw [← eq_X2_allLying d hd  s] at h
  refine ex_good hT (fun pc' ls' st' x' hh => ?_) 20 0 _ [] s h
  unfold ka_X2_allLying at hh
  cases hb : Nat.beq pc' 4 with
  | true =>
    rw [hb] at hh
    have e9 := beq1 hb
    subst e9
    simp only [cond_true] at hh
    split at hh
    · obtain ⟨g0, hh1⟩ := gd_some hh
      have e0 := veq_of g0
      subst e0
      exact Gd.wk (gd_X2_allLying_4 hT hd _ _ _ _ hh1) (Lle.eq (Lle.eq (Lle.eq Lle.nil)))
    · cases hh
  | false =>
    rw [hb] at hh
    simp only [cond_false] at hh
    cases hh

noncomputable def en_X2_allLying  : En := fun _ av s k => match av with
  | [.ref d] => (gd (Nat.beq d 30) (bI (f_X2_allLying d s) k))
  | _ => none
set_option maxRecDepth 100000 in
set_option maxHeartbeats 4000000 in
theorem en_X2_allLying_ok {l : Launch} {G : Gm} (D : Nat) (hD : 1 ≤ D) : enOK l G D 19 en_X2_allLying := by
  intro ρ av x k r h
  unfold en_X2_allLying at h
  split at h
  · obtain ⟨g0, h⟩ := gd_some h
    obtain ⟨q, h1, h2⟩ := bind_of h
    obtain ⟨D', rfl⟩ : ∃ D', D = D' + 1 := ⟨D - 1, by omega⟩
    exact ⟨_, _, h2, run_X2_allLying g0  _ _ h1 D' (by omega)⟩
  · cases h

/-! HatRank$Formula clear -/
noncomputable def tb_X3_clear (cal : Cal SS) : List (Nat × Ins SS) := [(0, e_aload 0 1), (1, e_iconst (6) 3), (3, e_putI opsS 3 6 6), (6, e_aload 0 7), (7, e_iconst (0) 8), (8, e_putI opsS 3 7 11), (11, e_vret)]
set_option maxRecDepth 100000 in
set_option maxHeartbeats 4000000 in
theorem tk_X3_clear {ad0 : Nat → Nat} {G : Gm} {A : Nat → Prop} {p : Program} {l : Launch} {e : Env} {R : Room} {s0 : State} {m : MethodId} {args : Array Value} {below : List Frame} {meth : Method} {c : Code} {Q : State → Prop} {ρ : Type} {ret : Option Value → SS → Option ρ} {r : ρ} (X : Cx G A RX3 cX3_clear 1 p s0 m args c) {D' : Nat} {cal : Cal SS} (hcal : calOK l G opsS D' cal) (hRm : ∀ k, k ≤ 21 → D' + 1 ≤ R.frames ∧ 8 + (k + 11) + 40 * D' ≤ R.locals) (hret : RetK G A cX3_clear 113 6344 ad0 p l e R s0 m args below meth c Q opsS ret r .return_ okV) : ∀ q ∈ tb_X3_clear cal, OKi G A 1 113 6344 ad0 p l e R s0 m args below meth c Q opsS ret r q.1 q.2 :=
    okc (ok_aload_n (j := 0) X (by decide +kernel) rfl rfl) (
    okc (ok_bipush (n := 6) X (by decide +kernel) rfl rfl) (
    okc (ok_putI (ci := 3) (kf := 6) (idx := 30) (C := RX3) (T := TX3) (N := 8) X opsS_ok rfl (by decide) inX3 tyX3_ok nmX3 (by decide) wf_X3_30 rfl (fun _ _ _ => rfl) (by decide +kernel) (by decide +kernel) rfl) (
    okc (ok_aload_n (j := 0) X (by decide +kernel) rfl rfl) (
    okc (ok_iconst (n := 0) X (by decide +kernel) rfl rfl) (
    okc (ok_putI (ci := 3) (kf := 7) (idx := 34) (C := RX3) (T := TX3) (N := 8) X opsS_ok rfl (by decide) inX3 tyX3_ok nmX3 (by decide) wf_X3_34 rfl (fun _ _ _ => rfl) (by decide +kernel) (by decide +kernel) rfl) (
    okc (ok_vret hret (by decide +kernel)) (
    okn)))))))
noncomputable def es_X3_clear  : List (Nat × En) := []
set_option maxRecDepth 100000 in
set_option maxHeartbeats 4000000 in
theorem eq_X3_clear (d : Nat) (hd : (Nat.beq d 13 || Nat.beq d 20) = true)  (s : SS) : ex (tb_X3_clear (calE (es_X3_clear))) rV [] (fun _ _ _ _ => none) 9 0 [some (.ref d)] [] s = f_X3_clear d s := by
  rcases beq2 hd with rfl | rfl <;> rfl
set_option maxRecDepth 100000 in
set_option maxHeartbeats 4000000 in
theorem run_X3_clear {l : Launch} {G : Gm} {d : Nat} (hd : (Nat.beq d 13 || Nat.beq d 20) = true)  (s : SS) (q : SS) (h : f_X3_clear d s = some q) (D' : Nat) (hD : 0 ≤ D') : RunsM l G (D' + 1) (md 21) (embS s) [.ref d] none (embS q) := by
  rw [md_X3_clear]
  refine runs_V (plainFor_of_name (by decide +kernel)) (Nat.le_of_ble_eq_true rfl) rfl ?_
  intro A p e R s0 m args below meth c Q ad0 hR X hret
  have X : Cx G A RX3 cX3_clear 1 p s0 m args c := X
  have hT := tk_X3_clear X (calE_ok (es := es_X3_clear) (enn)) (rmD rfl hR) hret
  rw [← eq_X3_clear d hd  s] at h
  refine ex_good hT (fun pc' ls' st' x' hh => ?_) 9 0 _ [] s h
  cases hh

noncomputable def en_X3_clear  : En := fun _ av s k => match av with
  | [.ref d] => (gd (Nat.beq d 13 || Nat.beq d 20) (bV (f_X3_clear d s) k))
  | _ => none
set_option maxRecDepth 100000 in
set_option maxHeartbeats 4000000 in
theorem en_X3_clear_ok {l : Launch} {G : Gm} (D : Nat) (hD : 1 ≤ D) : enOK l G D 21 en_X3_clear := by
  intro ρ av x k r h
  unfold en_X3_clear at h
  split at h
  · obtain ⟨g0, h⟩ := gd_some h
    obtain ⟨q, h1, h2⟩ := bind_of h
    obtain ⟨D', rfl⟩ : ∃ D', D = D' + 1 := ⟨D - 1, by omega⟩
    exact ⟨_, _, h2, run_X3_clear g0  _ _ h1 D' (by omega)⟩
  · cases h

/-! HatRank$Formula isEmpty -/
noncomputable def tb_X3_isEmpty (cal : Cal SS) : List (Nat × Ins SS) := [(0, e_aload 0 1), (1, e_getI opsS 3 7 4), (4, e_ifne 11 7), (7, e_iconst (1) 8), (8, e_goto 12), (11, e_iconst (0) 12), (12, e_zret)]
set_option maxRecDepth 100000 in
set_option maxHeartbeats 4000000 in
theorem tk_X3_isEmpty {ad0 : Nat → Nat} {G : Gm} {A : Nat → Prop} {p : Program} {l : Launch} {e : Env} {R : Room} {s0 : State} {m : MethodId} {args : Array Value} {below : List Frame} {meth : Method} {c : Code} {Q : State → Prop} {ρ : Type} {ret : Option Value → SS → Option ρ} {r : ρ} (X : Cx G A RX3 cX3_isEmpty 1 p s0 m args c) {D' : Nat} {cal : Cal SS} (hcal : calOK l G opsS D' cal) (hRm : ∀ k, k ≤ 21 → D' + 1 ≤ R.frames ∧ 8 + (k + 11) + 40 * D' ≤ R.locals) (hret : RetK G A cX3_isEmpty 113 6344 ad0 p l e R s0 m args below meth c Q opsS ret r .ireturn okZ) : ∀ q ∈ tb_X3_isEmpty cal, OKi G A 1 113 6344 ad0 p l e R s0 m args below meth c Q opsS ret r q.1 q.2 :=
    okc (ok_aload_n (j := 0) X (by decide +kernel) rfl rfl) (
    okc (ok_getI (ci := 3) (kf := 7) (idx := 34) (C := RX3) (T := TX3) (N := 8) X rfl (by decide) inX3 (by decide) wf_X3_34 (fun _ _ _ => rfl) (by decide +kernel) rfl) (
    okc (ok_ifne (off := 7) X (by decide +kernel) (by decide) rfl) (
    okc (ok_iconst (n := 1) X (by decide +kernel) rfl rfl) (
    okc (ok_goto (off := 4) X (by decide +kernel) (by decide)) (
    okc (ok_iconst (n := 0) X (by decide +kernel) rfl rfl) (
    okc (ok_zret hret (by decide +kernel)) (
    okn)))))))
noncomputable def es_X3_isEmpty  : List (Nat × En) := []
set_option maxRecDepth 100000 in
set_option maxHeartbeats 4000000 in
theorem eq_X3_isEmpty (d : Nat) (hd : (Nat.beq d 13 || Nat.beq d 20) = true)  (s : SS) : ex (tb_X3_isEmpty (calE (es_X3_isEmpty))) rI [] (fun _ _ _ _ => none) 9 0 [some (.ref d)] [] s = f_X3_isEmpty d s := by
  rcases beq2 hd with rfl | rfl <;> rfl
set_option maxRecDepth 100000 in
set_option maxHeartbeats 4000000 in
theorem run_X3_isEmpty {l : Launch} {G : Gm} {d : Nat} (hd : (Nat.beq d 13 || Nat.beq d 20) = true)  (s : SS) (q : (Int32 × SS)) (h : f_X3_isEmpty d s = some q) (D' : Nat) (hD : 0 ≤ D') : RunsM l G (D' + 1) (md 22) (embS s) [.ref d] (some (.int q.1)) (embS q.2) := by
  rw [md_X3_isEmpty]
  refine runs_Z (plainFor_of_name (by decide +kernel)) (Nat.le_of_ble_eq_true rfl) rfl ?_
  intro A p e R s0 m args below meth c Q ad0 hR X hret
  have X : Cx G A RX3 cX3_isEmpty 1 p s0 m args c := X
  have hT := tk_X3_isEmpty X (calE_ok (es := es_X3_isEmpty) (enn)) (rmD rfl hR) hret
  rw [← eq_X3_isEmpty d hd  s] at h
  refine ex_good hT (fun pc' ls' st' x' hh => ?_) 9 0 _ [] s h
  cases hh

noncomputable def en_X3_isEmpty  : En := fun _ av s k => match av with
  | [.ref d] => (gd (Nat.beq d 13 || Nat.beq d 20) (bI (f_X3_isEmpty d s) k))
  | _ => none
set_option maxRecDepth 100000 in
set_option maxHeartbeats 4000000 in
theorem en_X3_isEmpty_ok {l : Launch} {G : Gm} (D : Nat) (hD : 1 ≤ D) : enOK l G D 22 en_X3_isEmpty := by
  intro ρ av x k r h
  unfold en_X3_isEmpty at h
  split at h
  · obtain ⟨g0, h⟩ := gd_some h
    obtain ⟨q, h1, h2⟩ := bind_of h
    obtain ⟨D', rfl⟩ : ∃ D', D = D' + 1 := ⟨D - 1, by omega⟩
    exact ⟨_, _, h2, run_X3_isEmpty g0  _ _ h1 D' (by omega)⟩
  · cases h

/-! HatRank$Formula add -/
noncomputable def tb_X3_add (cal : Cal SS) : List (Nat × Ins SS) := [(0, e_aload 0 1), (1, e_getI opsS 3 6 4), (4, e_iconst (126) 6), (6, e_clt 11 9), (9, e_iconst (-1) 10), (10, e_iret), (11, e_aload 0 12), (12, e_getR opsS 3 0 15), (15, e_aload 0 16), (16, e_getI opsS 3 6 19), (19, e_iload 1 20), (20, e_ast opsS 100 (fun v => v) 21), (21, e_aload 0 22), (22, e_getR opsS 3 1 25), (25, e_aload 0 26), (26, e_getI opsS 3 6 29), (29, e_iload 2 30), (30, e_ast opsS 100 (fun v => v) 31), (31, e_aload 0 32), (32, e_getR opsS 3 2 35), (35, e_aload 0 36), (36, e_getI opsS 3 6 39), (39, e_iload 3 40), (40, e_ast opsS 100 (fun v => v) 41), (41, e_aload 0 42), (42, e_dup 43), (43, e_getI opsS 3 6 46), (46, e_iconst (1) 47), (47, e_bin aAdd 48), (48, e_putI opsS 3 6 51), (51, e_aload 0 52), (52, e_getI opsS 3 6 55), (55, e_iconst (1) 56), (56, e_bin aSub 57), (57, e_iret)]
set_option maxRecDepth 100000 in
set_option maxHeartbeats 4000000 in
theorem tk_X3_add {ad0 : Nat → Nat} {G : Gm} {A : Nat → Prop} {p : Program} {l : Launch} {e : Env} {R : Room} {s0 : State} {m : MethodId} {args : Array Value} {below : List Frame} {meth : Method} {c : Code} {Q : State → Prop} {ρ : Type} {ret : Option Value → SS → Option ρ} {r : ρ} (X : Cx G A RX3 cX3_add 4 p s0 m args c) {D' : Nat} {cal : Cal SS} (hcal : calOK l G opsS D' cal) (hRm : ∀ k, k ≤ 21 → D' + 1 ≤ R.frames ∧ 8 + (k + 11) + 40 * D' ≤ R.locals) (hret : RetK G A cX3_add 113 6344 ad0 p l e R s0 m args below meth c Q opsS ret r .ireturn okI) : ∀ q ∈ tb_X3_add cal, OKi G A 4 113 6344 ad0 p l e R s0 m args below meth c Q opsS ret r q.1 q.2 :=
    okc (ok_aload_n (j := 0) X (by decide +kernel) rfl rfl) (
    okc (ok_getI (ci := 3) (kf := 6) (idx := 30) (C := RX3) (T := TX3) (N := 8) X rfl (by decide) inX3 (by decide) wf_X3_30 (fun _ _ _ => rfl) (by decide +kernel) rfl) (
    okc (ok_bipush (n := 126) X (by decide +kernel) rfl rfl) (
    okc (ok_clt (off := 5) X (by decide +kernel) (by decide) rfl) (
    okc (ok_iconst (n := -1) X (by decide +kernel) rfl rfl) (
    okc (ok_iret hret (by decide +kernel)) (
    okc (ok_aload_n (j := 0) X (by decide +kernel) rfl rfl) (
    okc (ok_getR (ci := 3) (kf := 0) (idx := 11) (C := RX3) (T := TX3) (N := 8) X rfl (by decide) inX3 (by decide) wf_X3_11 (fun _ _ _ => rfl) (by decide +kernel) rfl) (
    okc (ok_aload_n (j := 0) X (by decide +kernel) rfl rfl) (
    okc (ok_getI (ci := 3) (kf := 6) (idx := 30) (C := RX3) (T := TX3) (N := 8) X rfl (by decide) inX3 (by decide) wf_X3_30 (fun _ _ _ => rfl) (by decide +kernel) rfl) (
    okc (ok_iload_n (j := 1) X (by decide +kernel) rfl rfl) (
    okc (ok_iast X opsS_ok (by decide +kernel) rfl) (
    okc (ok_aload_n (j := 0) X (by decide +kernel) rfl rfl) (
    okc (ok_getR (ci := 3) (kf := 1) (idx := 15) (C := RX3) (T := TX3) (N := 8) X rfl (by decide) inX3 (by decide) wf_X3_15 (fun _ _ _ => rfl) (by decide +kernel) rfl) (
    okc (ok_aload_n (j := 0) X (by decide +kernel) rfl rfl) (
    okc (ok_getI (ci := 3) (kf := 6) (idx := 30) (C := RX3) (T := TX3) (N := 8) X rfl (by decide) inX3 (by decide) wf_X3_30 (fun _ _ _ => rfl) (by decide +kernel) rfl) (
    okc (ok_iload_n (j := 2) X (by decide +kernel) rfl rfl) (
    okc (ok_iast X opsS_ok (by decide +kernel) rfl) (
    okc (ok_aload_n (j := 0) X (by decide +kernel) rfl rfl) (
    okc (ok_getR (ci := 3) (kf := 2) (idx := 18) (C := RX3) (T := TX3) (N := 8) X rfl (by decide) inX3 (by decide) wf_X3_18 (fun _ _ _ => rfl) (by decide +kernel) rfl) (
    okc (ok_aload_n (j := 0) X (by decide +kernel) rfl rfl) (
    okc (ok_getI (ci := 3) (kf := 6) (idx := 30) (C := RX3) (T := TX3) (N := 8) X rfl (by decide) inX3 (by decide) wf_X3_30 (fun _ _ _ => rfl) (by decide +kernel) rfl) (
    okc (ok_iload_n (j := 3) X (by decide +kernel) rfl rfl) (
    okc (ok_iast X opsS_ok (by decide +kernel) rfl) (
    okc (ok_aload_n (j := 0) X (by decide +kernel) rfl rfl) (
    okc (ok_dup X (by decide +kernel) rfl) (
    okc (ok_getI (ci := 3) (kf := 6) (idx := 30) (C := RX3) (T := TX3) (N := 8) X rfl (by decide) inX3 (by decide) wf_X3_30 (fun _ _ _ => rfl) (by decide +kernel) rfl) (
    okc (ok_iconst (n := 1) X (by decide +kernel) rfl rfl) (
    okc (ok_iadd X (by decide +kernel) rfl) (
    okc (ok_putI (ci := 3) (kf := 6) (idx := 30) (C := RX3) (T := TX3) (N := 8) X opsS_ok rfl (by decide) inX3 tyX3_ok nmX3 (by decide) wf_X3_30 rfl (fun _ _ _ => rfl) (by decide +kernel) (by decide +kernel) rfl) (
    okc (ok_aload_n (j := 0) X (by decide +kernel) rfl rfl) (
    okc (ok_getI (ci := 3) (kf := 6) (idx := 30) (C := RX3) (T := TX3) (N := 8) X rfl (by decide) inX3 (by decide) wf_X3_30 (fun _ _ _ => rfl) (by decide +kernel) rfl) (
    okc (ok_iconst (n := 1) X (by decide +kernel) rfl rfl) (
    okc (ok_isub X (by decide +kernel) rfl) (
    okc (ok_iret hret (by decide +kernel)) (
    okn)))))))))))))))))))))))))))))))))))
noncomputable def es_X3_add  : List (Nat × En) := []
set_option maxRecDepth 100000 in
set_option maxHeartbeats 4000000 in
theorem eq_X3_add (d : Nat) (hd : (Nat.beq d 13 || Nat.beq d 20) = true) (a0 : Int32) (a1 : Int32) (a2 : Int32) (s : SS) : ex (tb_X3_add (calE (es_X3_add))) rI [] (fun _ _ _ _ => none) 37 0 [some (.ref d), some (.int a0), some (.int a1), some (.int a2)] [] s = f_X3_add d a0 a1 a2 s := by
  rcases beq2 hd with rfl | rfl <;> rfl
set_option maxRecDepth 100000 in
set_option maxHeartbeats 4000000 in
theorem run_X3_add {l : Launch} {G : Gm} {d : Nat} (hd : (Nat.beq d 13 || Nat.beq d 20) = true) (a0 : Int32) (a1 : Int32) (a2 : Int32) (s : SS) (q : (Int32 × SS)) (h : f_X3_add d a0 a1 a2 s = some q) (D' : Nat) (hD : 0 ≤ D') : RunsM l G (D' + 1) (md 24) (embS s) [.ref d, .int a0, .int a1, .int a2] (some (.int q.1)) (embS q.2) := by
  rw [md_X3_add]
  refine runs_I (plainFor_of_name (by decide +kernel)) (Nat.le_of_ble_eq_true rfl) rfl ?_
  intro A p e R s0 m args below meth c Q ad0 hR X hret
  have X : Cx G A RX3 cX3_add 4 p s0 m args c := X
  have hT := tk_X3_add X (calE_ok (es := es_X3_add) (enn)) (rmD rfl hR) hret
  rw [← eq_X3_add d hd a0 a1 a2 s] at h
  refine ex_good hT (fun pc' ls' st' x' hh => ?_) 37 0 _ [] s h
  cases hh

noncomputable def en_X3_add  : En := fun _ av s k => match av with
  | [.ref d, .int a0, .int a1, .int a2] => (gd (Nat.beq d 13 || Nat.beq d 20) (bI (f_X3_add d a0 a1 a2 s) k))
  | _ => none
set_option maxRecDepth 100000 in
set_option maxHeartbeats 4000000 in
theorem en_X3_add_ok {l : Launch} {G : Gm} (D : Nat) (hD : 1 ≤ D) : enOK l G D 24 en_X3_add := by
  intro ρ av x k r h
  unfold en_X3_add at h
  split at h
  · obtain ⟨g0, h⟩ := gd_some h
    obtain ⟨q, h1, h2⟩ := bind_of h
    obtain ⟨D', rfl⟩ : ∃ D', D = D' + 1 := ⟨D - 1, by omega⟩
    exact ⟨_, _, h2, run_X3_add g0 _ _ _ _ _ h1 D' (by omega)⟩
  · cases h

/-! HatRank$Formula addLine -/
noncomputable def tb_X3_addLine (cal : Cal SS) : List (Nat × Ins SS) := [(0, e_aload 0 1), (1, e_getI opsS 3 7 4), (4, e_iconst (120) 6), (6, e_cge 39 9), (9, e_aload 0 10), (10, e_getR opsS 3 4 13), (13, e_aload 0 14), (14, e_getI opsS 3 7 17), (17, e_iload 1 18), (18, e_ast opsS 100 (fun v => v) 19), (19, e_aload 0 20), (20, e_getR opsS 3 5 23), (23, e_aload 0 24), (24, e_getI opsS 3 7 27), (27, e_iload 2 28), (28, e_ast opsS 100 (fun v => v) 29), (29, e_aload 0 30), (30, e_dup 31), (31, e_getI opsS 3 7 34), (34, e_iconst (1) 35), (35, e_bin aAdd 36), (36, e_putI opsS 3 7 39), (39, e_vret)]
set_option maxRecDepth 100000 in
set_option maxHeartbeats 4000000 in
theorem tk_X3_addLine {ad0 : Nat → Nat} {G : Gm} {A : Nat → Prop} {p : Program} {l : Launch} {e : Env} {R : Room} {s0 : State} {m : MethodId} {args : Array Value} {below : List Frame} {meth : Method} {c : Code} {Q : State → Prop} {ρ : Type} {ret : Option Value → SS → Option ρ} {r : ρ} (X : Cx G A RX3 cX3_addLine 3 p s0 m args c) {D' : Nat} {cal : Cal SS} (hcal : calOK l G opsS D' cal) (hRm : ∀ k, k ≤ 21 → D' + 1 ≤ R.frames ∧ 8 + (k + 11) + 40 * D' ≤ R.locals) (hret : RetK G A cX3_addLine 113 6344 ad0 p l e R s0 m args below meth c Q opsS ret r .return_ okV) : ∀ q ∈ tb_X3_addLine cal, OKi G A 3 113 6344 ad0 p l e R s0 m args below meth c Q opsS ret r q.1 q.2 :=
    okc (ok_aload_n (j := 0) X (by decide +kernel) rfl rfl) (
    okc (ok_getI (ci := 3) (kf := 7) (idx := 34) (C := RX3) (T := TX3) (N := 8) X rfl (by decide) inX3 (by decide) wf_X3_34 (fun _ _ _ => rfl) (by decide +kernel) rfl) (
    okc (ok_bipush (n := 120) X (by decide +kernel) rfl rfl) (
    okc (ok_cge (off := 33) X (by decide +kernel) (by decide) rfl) (
    okc (ok_aload_n (j := 0) X (by decide +kernel) rfl rfl) (
    okc (ok_getR (ci := 3) (kf := 4) (idx := 24) (C := RX3) (T := TX3) (N := 8) X rfl (by decide) inX3 (by decide) wf_X3_24 (fun _ _ _ => rfl) (by decide +kernel) rfl) (
    okc (ok_aload_n (j := 0) X (by decide +kernel) rfl rfl) (
    okc (ok_getI (ci := 3) (kf := 7) (idx := 34) (C := RX3) (T := TX3) (N := 8) X rfl (by decide) inX3 (by decide) wf_X3_34 (fun _ _ _ => rfl) (by decide +kernel) rfl) (
    okc (ok_iload_n (j := 1) X (by decide +kernel) rfl rfl) (
    okc (ok_iast X opsS_ok (by decide +kernel) rfl) (
    okc (ok_aload_n (j := 0) X (by decide +kernel) rfl rfl) (
    okc (ok_getR (ci := 3) (kf := 5) (idx := 27) (C := RX3) (T := TX3) (N := 8) X rfl (by decide) inX3 (by decide) wf_X3_27 (fun _ _ _ => rfl) (by decide +kernel) rfl) (
    okc (ok_aload_n (j := 0) X (by decide +kernel) rfl rfl) (
    okc (ok_getI (ci := 3) (kf := 7) (idx := 34) (C := RX3) (T := TX3) (N := 8) X rfl (by decide) inX3 (by decide) wf_X3_34 (fun _ _ _ => rfl) (by decide +kernel) rfl) (
    okc (ok_iload_n (j := 2) X (by decide +kernel) rfl rfl) (
    okc (ok_iast X opsS_ok (by decide +kernel) rfl) (
    okc (ok_aload_n (j := 0) X (by decide +kernel) rfl rfl) (
    okc (ok_dup X (by decide +kernel) rfl) (
    okc (ok_getI (ci := 3) (kf := 7) (idx := 34) (C := RX3) (T := TX3) (N := 8) X rfl (by decide) inX3 (by decide) wf_X3_34 (fun _ _ _ => rfl) (by decide +kernel) rfl) (
    okc (ok_iconst (n := 1) X (by decide +kernel) rfl rfl) (
    okc (ok_iadd X (by decide +kernel) rfl) (
    okc (ok_putI (ci := 3) (kf := 7) (idx := 34) (C := RX3) (T := TX3) (N := 8) X opsS_ok rfl (by decide) inX3 tyX3_ok nmX3 (by decide) wf_X3_34 rfl (fun _ _ _ => rfl) (by decide +kernel) (by decide +kernel) rfl) (
    okc (ok_vret hret (by decide +kernel)) (
    okn)))))))))))))))))))))))
noncomputable def es_X3_addLine  : List (Nat × En) := []
set_option maxRecDepth 100000 in
set_option maxHeartbeats 4000000 in
theorem eq_X3_addLine (d : Nat) (hd : (Nat.beq d 13 || Nat.beq d 20) = true) (a0 : Int32) (a1 : Int32) (s : SS) : ex (tb_X3_addLine (calE (es_X3_addLine))) rV [] (fun _ _ _ _ => none) 25 0 [some (.ref d), some (.int a0), some (.int a1)] [] s = f_X3_addLine d a0 a1 s := by
  rcases beq2 hd with rfl | rfl <;> rfl
set_option maxRecDepth 100000 in
set_option maxHeartbeats 4000000 in
theorem run_X3_addLine {l : Launch} {G : Gm} {d : Nat} (hd : (Nat.beq d 13 || Nat.beq d 20) = true) (a0 : Int32) (a1 : Int32) (s : SS) (q : SS) (h : f_X3_addLine d a0 a1 s = some q) (D' : Nat) (hD : 0 ≤ D') : RunsM l G (D' + 1) (md 25) (embS s) [.ref d, .int a0, .int a1] none (embS q) := by
  rw [md_X3_addLine]
  refine runs_V (plainFor_of_name (by decide +kernel)) (Nat.le_of_ble_eq_true rfl) rfl ?_
  intro A p e R s0 m args below meth c Q ad0 hR X hret
  have X : Cx G A RX3 cX3_addLine 3 p s0 m args c := X
  have hT := tk_X3_addLine X (calE_ok (es := es_X3_addLine) (enn)) (rmD rfl hR) hret
  rw [← eq_X3_addLine d hd a0 a1 s] at h
  refine ex_good hT (fun pc' ls' st' x' hh => ?_) 25 0 _ [] s h
  cases hh

noncomputable def en_X3_addLine  : En := fun _ av s k => match av with
  | [.ref d, .int a0, .int a1] => (gd (Nat.beq d 13 || Nat.beq d 20) (bV (f_X3_addLine d a0 a1 s) k))
  | _ => none
set_option maxRecDepth 100000 in
set_option maxHeartbeats 4000000 in
theorem en_X3_addLine_ok {l : Launch} {G : Gm} (D : Nat) (hD : 1 ≤ D) : enOK l G D 25 en_X3_addLine := by
  intro ρ av x k r h
  unfold en_X3_addLine at h
  split at h
  · obtain ⟨g0, h⟩ := gd_some h
    obtain ⟨q, h1, h2⟩ := bind_of h
    obtain ⟨D', rfl⟩ : ∃ D', D = D' + 1 := ⟨D - 1, by omega⟩
    exact ⟨_, _, h2, run_X3_addLine g0 _ _ _ _ h1 D' (by omega)⟩
  · cases h

/-! HatRank$Formula name -/
noncomputable def tb_X3_name (cal : Cal SS) : List (Nat × Ins SS) := [(0, e_iload 1 1), (1, e_iflt 17 4), (4, e_iload 1 5), (5, e_iconst (6) 7), (7, e_cge 17 10), (10, e_aload 0 11), (11, e_getR opsS 3 3 14), (14, e_iload 1 15), (15, e_iload 2 16), (16, e_ast opsS 100 (fun v => v) 17), (17, e_vret)]
set_option maxRecDepth 100000 in
set_option maxHeartbeats 4000000 in
theorem tk_X3_name {ad0 : Nat → Nat} {G : Gm} {A : Nat → Prop} {p : Program} {l : Launch} {e : Env} {R : Room} {s0 : State} {m : MethodId} {args : Array Value} {below : List Frame} {meth : Method} {c : Code} {Q : State → Prop} {ρ : Type} {ret : Option Value → SS → Option ρ} {r : ρ} (X : Cx G A RX3 cX3_name 3 p s0 m args c) {D' : Nat} {cal : Cal SS} (hcal : calOK l G opsS D' cal) (hRm : ∀ k, k ≤ 21 → D' + 1 ≤ R.frames ∧ 8 + (k + 11) + 40 * D' ≤ R.locals) (hret : RetK G A cX3_name 113 6344 ad0 p l e R s0 m args below meth c Q opsS ret r .return_ okV) : ∀ q ∈ tb_X3_name cal, OKi G A 3 113 6344 ad0 p l e R s0 m args below meth c Q opsS ret r q.1 q.2 :=
    okc (ok_iload_n (j := 1) X (by decide +kernel) rfl rfl) (
    okc (ok_iflt (off := 16) X (by decide +kernel) (by decide) rfl) (
    okc (ok_iload_n (j := 1) X (by decide +kernel) rfl rfl) (
    okc (ok_bipush (n := 6) X (by decide +kernel) rfl rfl) (
    okc (ok_cge (off := 10) X (by decide +kernel) (by decide) rfl) (
    okc (ok_aload_n (j := 0) X (by decide +kernel) rfl rfl) (
    okc (ok_getR (ci := 3) (kf := 3) (idx := 21) (C := RX3) (T := TX3) (N := 8) X rfl (by decide) inX3 (by decide) wf_X3_21 (fun _ _ _ => rfl) (by decide +kernel) rfl) (
    okc (ok_iload_n (j := 1) X (by decide +kernel) rfl rfl) (
    okc (ok_iload_n (j := 2) X (by decide +kernel) rfl rfl) (
    okc (ok_iast X opsS_ok (by decide +kernel) rfl) (
    okc (ok_vret hret (by decide +kernel)) (
    okn)))))))))))
noncomputable def es_X3_name  : List (Nat × En) := []
set_option maxRecDepth 100000 in
set_option maxHeartbeats 4000000 in
theorem eq_X3_name (d : Nat) (hd : (Nat.beq d 13 || Nat.beq d 20) = true) (a0 : Int32) (a1 : Int32) (s : SS) : ex (tb_X3_name (calE (es_X3_name))) rV [] (fun _ _ _ _ => none) 13 0 [some (.ref d), some (.int a0), some (.int a1)] [] s = f_X3_name d a0 a1 s := by
  rcases beq2 hd with rfl | rfl <;> rfl
set_option maxRecDepth 100000 in
set_option maxHeartbeats 4000000 in
theorem run_X3_name {l : Launch} {G : Gm} {d : Nat} (hd : (Nat.beq d 13 || Nat.beq d 20) = true) (a0 : Int32) (a1 : Int32) (s : SS) (q : SS) (h : f_X3_name d a0 a1 s = some q) (D' : Nat) (hD : 0 ≤ D') : RunsM l G (D' + 1) (md 26) (embS s) [.ref d, .int a0, .int a1] none (embS q) := by
  rw [md_X3_name]
  refine runs_V (plainFor_of_name (by decide +kernel)) (Nat.le_of_ble_eq_true rfl) rfl ?_
  intro A p e R s0 m args below meth c Q ad0 hR X hret
  have X : Cx G A RX3 cX3_name 3 p s0 m args c := X
  have hT := tk_X3_name X (calE_ok (es := es_X3_name) (enn)) (rmD rfl hR) hret
  rw [← eq_X3_name d hd a0 a1 s] at h
  refine ex_good hT (fun pc' ls' st' x' hh => ?_) 13 0 _ [] s h
  cases hh

noncomputable def en_X3_name  : En := fun _ av s k => match av with
  | [.ref d, .int a0, .int a1] => (gd (Nat.beq d 13 || Nat.beq d 20) (bV (f_X3_name d a0 a1 s) k))
  | _ => none
set_option maxRecDepth 100000 in
set_option maxHeartbeats 4000000 in
theorem en_X3_name_ok {l : Launch} {G : Gm} (D : Nat) (hD : 1 ≤ D) : enOK l G D 26 en_X3_name := by
  intro ρ av x k r h
  unfold en_X3_name at h
  split at h
  · obtain ⟨g0, h⟩ := gd_some h
    obtain ⟨q, h1, h2⟩ := bind_of h
    obtain ⟨D', rfl⟩ : ∃ D', D = D' + 1 := ⟨D - 1, by omega⟩
    exact ⟨_, _, h2, run_X3_name g0 _ _ _ _ h1 D' (by omega)⟩
  · cases h

/-! HatRank$Formula has -/
noncomputable def tb_X3_has (cal : Cal SS) : List (Nat × Ins SS) := [(0, e_iload 1 1), (1, e_iflt 16 4), (4, e_iload 1 5), (5, e_aload 0 6), (6, e_getI opsS 3 6 9), (9, e_cge 16 12), (12, e_iconst (1) 13), (13, e_goto 17), (16, e_iconst (0) 17), (17, e_zret)]
set_option maxRecDepth 100000 in
set_option maxHeartbeats 4000000 in
theorem tk_X3_has {ad0 : Nat → Nat} {G : Gm} {A : Nat → Prop} {p : Program} {l : Launch} {e : Env} {R : Room} {s0 : State} {m : MethodId} {args : Array Value} {below : List Frame} {meth : Method} {c : Code} {Q : State → Prop} {ρ : Type} {ret : Option Value → SS → Option ρ} {r : ρ} (X : Cx G A RX3 cX3_has 2 p s0 m args c) {D' : Nat} {cal : Cal SS} (hcal : calOK l G opsS D' cal) (hRm : ∀ k, k ≤ 21 → D' + 1 ≤ R.frames ∧ 8 + (k + 11) + 40 * D' ≤ R.locals) (hret : RetK G A cX3_has 113 6344 ad0 p l e R s0 m args below meth c Q opsS ret r .ireturn okZ) : ∀ q ∈ tb_X3_has cal, OKi G A 2 113 6344 ad0 p l e R s0 m args below meth c Q opsS ret r q.1 q.2 :=
    okc (ok_iload_n (j := 1) X (by decide +kernel) rfl rfl) (
    okc (ok_iflt (off := 15) X (by decide +kernel) (by decide) rfl) (
    okc (ok_iload_n (j := 1) X (by decide +kernel) rfl rfl) (
    okc (ok_aload_n (j := 0) X (by decide +kernel) rfl rfl) (
    okc (ok_getI (ci := 3) (kf := 6) (idx := 30) (C := RX3) (T := TX3) (N := 8) X rfl (by decide) inX3 (by decide) wf_X3_30 (fun _ _ _ => rfl) (by decide +kernel) rfl) (
    okc (ok_cge (off := 7) X (by decide +kernel) (by decide) rfl) (
    okc (ok_iconst (n := 1) X (by decide +kernel) rfl rfl) (
    okc (ok_goto (off := 4) X (by decide +kernel) (by decide)) (
    okc (ok_iconst (n := 0) X (by decide +kernel) rfl rfl) (
    okc (ok_zret hret (by decide +kernel)) (
    okn))))))))))
noncomputable def es_X3_has  : List (Nat × En) := []
set_option maxRecDepth 100000 in
set_option maxHeartbeats 4000000 in
theorem eq_X3_has (d : Nat) (hd : (Nat.beq d 13 || Nat.beq d 20) = true) (a0 : Int32) (s : SS) : ex (tb_X3_has (calE (es_X3_has))) rI [] (fun _ _ _ _ => none) 12 0 [some (.ref d), some (.int a0)] [] s = f_X3_has d a0 s := by
  rcases beq2 hd with rfl | rfl <;> rfl
set_option maxRecDepth 100000 in
set_option maxHeartbeats 4000000 in
theorem run_X3_has {l : Launch} {G : Gm} {d : Nat} (hd : (Nat.beq d 13 || Nat.beq d 20) = true) (a0 : Int32) (s : SS) (q : (Int32 × SS)) (h : f_X3_has d a0 s = some q) (D' : Nat) (hD : 0 ≤ D') : RunsM l G (D' + 1) (md 28) (embS s) [.ref d, .int a0] (some (.int q.1)) (embS q.2) := by
  rw [md_X3_has]
  refine runs_Z (plainFor_of_name (by decide +kernel)) (Nat.le_of_ble_eq_true rfl) rfl ?_
  intro A p e R s0 m args below meth c Q ad0 hR X hret
  have X : Cx G A RX3 cX3_has 2 p s0 m args c := X
  have hT := tk_X3_has X (calE_ok (es := es_X3_has) (enn)) (rmD rfl hR) hret
  rw [← eq_X3_has d hd a0 s] at h
  refine ex_good hT (fun pc' ls' st' x' hh => ?_) 12 0 _ [] s h
  cases hh

noncomputable def en_X3_has  : En := fun _ av s k => match av with
  | [.ref d, .int a0] => (gd (Nat.beq d 13 || Nat.beq d 20) (bI (f_X3_has d a0 s) k))
  | _ => none
set_option maxRecDepth 100000 in
set_option maxHeartbeats 4000000 in
theorem en_X3_has_ok {l : Launch} {G : Gm} (D : Nat) (hD : 1 ≤ D) : enOK l G D 28 en_X3_has := by
  intro ρ av x k r h
  unfold en_X3_has at h
  split at h
  · obtain ⟨g0, h⟩ := gd_some h
    obtain ⟨q, h1, h2⟩ := bind_of h
    obtain ⟨D', rfl⟩ : ∃ D', D = D' + 1 := ⟨D - 1, by omega⟩
    exact ⟨_, _, h2, run_X3_has g0 _ _ _ h1 D' (by omega)⟩
  · cases h

/-! HatRank$Formula join -/
noncomputable def tb_X3_join (cal : Cal SS) : List (Nat × Ins SS) := [(0, e_iload 0 1), (1, e_sw [(33, 108), (37, 206), (38, 135), (42, 190), (43, 182), (45, 186), (47, 194), (60, 149), (61, 160), (62, 171), (95, 118), (124, 121)] 218), (108, e_iload 1 109), (109, e_ifne 116 112), (112, e_iconst (1) 113), (113, e_goto 117), (116, e_iconst (0) 117), (117, e_iret), (118, e_iload 1 119), (119, e_un aNeg 120), (120, e_iret), (121, e_iload 1 122), (122, e_ifne 129 125), (125, e_iload 2 126), (126, e_ifeq 133 129), (129, e_iconst (1) 130), (130, e_goto 134), (133, e_iconst (0) 134), (134, e_iret), (135, e_iload 1 136), (136, e_ifeq 147 139), (139, e_iload 2 140), (140, e_ifeq 147 143), (143, e_iconst (1) 144), (144, e_goto 148), (147, e_iconst (0) 148), (148, e_iret), (149, e_iload 1 150), (150, e_iload 2 151), (151, e_cge 158 154), (154, e_iconst (1) 155), (155, e_goto 159), (158, e_iconst (0) 159), (159, e_iret), (160, e_iload 1 161), (161, e_iload 2 162), (162, e_cne 169 165), (165, e_iconst (1) 166), (166, e_goto 170), (169, e_iconst (0) 170), (170, e_iret), (171, e_iload 1 172), (172, e_iload 2 173), (173, e_cle 180 176), (176, e_iconst (1) 177), (177, e_goto 181), (180, e_iconst (0) 181), (181, e_iret), (182, e_iload 1 183), (183, e_iload 2 184), (184, e_bin aAdd 185), (185, e_iret), (186, e_iload 1 187), (187, e_iload 2 188), (188, e_bin aSub 189), (189, e_iret), (190, e_iload 1 191), (191, e_iload 2 192), (192, e_bin aMul 193), (193, e_iret), (194, e_iload 2 195), (195, e_ifne 202 198), (198, e_iconst (0) 199), (199, e_goto 205), (202, e_iload 1 203), (203, e_iload 2 204), (204, e_div aDiv 205), (205, e_iret), (206, e_iload 2 207), (207, e_ifne 214 210), (210, e_iconst (0) 211), (211, e_goto 217), (214, e_iload 1 215), (215, e_iload 2 216), (216, e_div aRem 217), (217, e_iret), (218, e_iconst (0) 219), (219, e_iret)]
set_option maxRecDepth 100000 in
set_option maxHeartbeats 4000000 in
theorem tk_X3_join {ad0 : Nat → Nat} {G : Gm} {A : Nat → Prop} {p : Program} {l : Launch} {e : Env} {R : Room} {s0 : State} {m : MethodId} {args : Array Value} {below : List Frame} {meth : Method} {c : Code} {Q : State → Prop} {ρ : Type} {ret : Option Value → SS → Option ρ} {r : ρ} (X : Cx G A RX3 cX3_join 3 p s0 m args c) {D' : Nat} {cal : Cal SS} (hcal : calOK l G opsS D' cal) (hRm : ∀ k, k ≤ 21 → D' + 1 ≤ R.frames ∧ 8 + (k + 11) + 40 * D' ≤ R.locals) (hret : RetK G A cX3_join 113 6344 ad0 p l e R s0 m args below meth c Q opsS ret r .ireturn okI) : ∀ q ∈ tb_X3_join cal, OKi G A 3 113 6344 ad0 p l e R s0 m args below meth c Q opsS ret r q.1 q.2 :=
    okc (ok_iload_n (j := 0) X (by decide +kernel) rfl rfl) (
    okc (ok_lsw (dflt := 217) (ps := #[(33, 107), (37, 205), (38, 134), (42, 189), (43, 181), (45, 185), (47, 193), (60, 148), (61, 159), (62, 170), (95, 117), (124, 120)]) (len := 107) X (by decide +kernel) (by decide +kernel) (lsw_ok 1 217 _ (by decide +kernel))) (
    okc (ok_iload_n (j := 1) X (by decide +kernel) rfl rfl) (
    okc (ok_ifne (off := 7) X (by decide +kernel) (by decide) rfl) (
    okc (ok_iconst (n := 1) X (by decide +kernel) rfl rfl) (
    okc (ok_goto (off := 4) X (by decide +kernel) (by decide)) (
    okc (ok_iconst (n := 0) X (by decide +kernel) rfl rfl) (
    okc (ok_iret hret (by decide +kernel)) (
    okc (ok_iload_n (j := 1) X (by decide +kernel) rfl rfl) (
    okc (ok_ineg X (by decide +kernel) rfl) (
    okc (ok_iret hret (by decide +kernel)) (
    okc (ok_iload_n (j := 1) X (by decide +kernel) rfl rfl) (
    okc (ok_ifne (off := 7) X (by decide +kernel) (by decide) rfl) (
    okc (ok_iload_n (j := 2) X (by decide +kernel) rfl rfl) (
    okc (ok_ifeq (off := 7) X (by decide +kernel) (by decide) rfl) (
    okc (ok_iconst (n := 1) X (by decide +kernel) rfl rfl) (
    okc (ok_goto (off := 4) X (by decide +kernel) (by decide)) (
    okc (ok_iconst (n := 0) X (by decide +kernel) rfl rfl) (
    okc (ok_iret hret (by decide +kernel)) (
    okc (ok_iload_n (j := 1) X (by decide +kernel) rfl rfl) (
    okc (ok_ifeq (off := 11) X (by decide +kernel) (by decide) rfl) (
    okc (ok_iload_n (j := 2) X (by decide +kernel) rfl rfl) (
    okc (ok_ifeq (off := 7) X (by decide +kernel) (by decide) rfl) (
    okc (ok_iconst (n := 1) X (by decide +kernel) rfl rfl) (
    okc (ok_goto (off := 4) X (by decide +kernel) (by decide)) (
    okc (ok_iconst (n := 0) X (by decide +kernel) rfl rfl) (
    okc (ok_iret hret (by decide +kernel)) (
    okc (ok_iload_n (j := 1) X (by decide +kernel) rfl rfl) (
    okc (ok_iload_n (j := 2) X (by decide +kernel) rfl rfl) (
    okc (ok_cge (off := 7) X (by decide +kernel) (by decide) rfl) (
    okc (ok_iconst (n := 1) X (by decide +kernel) rfl rfl) (
    okc (ok_goto (off := 4) X (by decide +kernel) (by decide)) (
    okc (ok_iconst (n := 0) X (by decide +kernel) rfl rfl) (
    okc (ok_iret hret (by decide +kernel)) (
    okc (ok_iload_n (j := 1) X (by decide +kernel) rfl rfl) (
    okc (ok_iload_n (j := 2) X (by decide +kernel) rfl rfl) (
    okc (ok_cne (off := 7) X (by decide +kernel) (by decide) rfl) (
    okc (ok_iconst (n := 1) X (by decide +kernel) rfl rfl) (
    okc (ok_goto (off := 4) X (by decide +kernel) (by decide)) (
    okc (ok_iconst (n := 0) X (by decide +kernel) rfl rfl) (
    okc (ok_iret hret (by decide +kernel)) (
    okc (ok_iload_n (j := 1) X (by decide +kernel) rfl rfl) (
    okc (ok_iload_n (j := 2) X (by decide +kernel) rfl rfl) (
    okc (ok_cle (off := 7) X (by decide +kernel) (by decide) rfl) (
    okc (ok_iconst (n := 1) X (by decide +kernel) rfl rfl) (
    okc (ok_goto (off := 4) X (by decide +kernel) (by decide)) (
    okc (ok_iconst (n := 0) X (by decide +kernel) rfl rfl) (
    okc (ok_iret hret (by decide +kernel)) (
    okc (ok_iload_n (j := 1) X (by decide +kernel) rfl rfl) (
    okc (ok_iload_n (j := 2) X (by decide +kernel) rfl rfl) (
    okc (ok_iadd X (by decide +kernel) rfl) (
    okc (ok_iret hret (by decide +kernel)) (
    okc (ok_iload_n (j := 1) X (by decide +kernel) rfl rfl) (
    okc (ok_iload_n (j := 2) X (by decide +kernel) rfl rfl) (
    okc (ok_isub X (by decide +kernel) rfl) (
    okc (ok_iret hret (by decide +kernel)) (
    okc (ok_iload_n (j := 1) X (by decide +kernel) rfl rfl) (
    okc (ok_iload_n (j := 2) X (by decide +kernel) rfl rfl) (
    okc (ok_imul X (by decide +kernel) rfl) (
    okc (ok_iret hret (by decide +kernel)) (
    okc (ok_iload_n (j := 2) X (by decide +kernel) rfl rfl) (
    okc (ok_ifne (off := 7) X (by decide +kernel) (by decide) rfl) (
    okc (ok_iconst (n := 0) X (by decide +kernel) rfl rfl) (
    okc (ok_goto (off := 6) X (by decide +kernel) (by decide)) (
    okc (ok_iload_n (j := 1) X (by decide +kernel) rfl rfl) (
    okc (ok_iload_n (j := 2) X (by decide +kernel) rfl rfl) (
    okc (ok_idiv X (by decide +kernel) rfl) (
    okc (ok_iret hret (by decide +kernel)) (
    okc (ok_iload_n (j := 2) X (by decide +kernel) rfl rfl) (
    okc (ok_ifne (off := 7) X (by decide +kernel) (by decide) rfl) (
    okc (ok_iconst (n := 0) X (by decide +kernel) rfl rfl) (
    okc (ok_goto (off := 6) X (by decide +kernel) (by decide)) (
    okc (ok_iload_n (j := 1) X (by decide +kernel) rfl rfl) (
    okc (ok_iload_n (j := 2) X (by decide +kernel) rfl rfl) (
    okc (ok_irem X (by decide +kernel) rfl) (
    okc (ok_iret hret (by decide +kernel)) (
    okc (ok_iconst (n := 0) X (by decide +kernel) rfl rfl) (
    okc (ok_iret hret (by decide +kernel)) (
    okn))))))))))))))))))))))))))))))))))))))))))))))))))))))))))))))))))))))))))))))
noncomputable def es_X3_join  : List (Nat × En) := []
set_option maxRecDepth 100000 in
set_option maxHeartbeats 4000000 in
theorem eq_X3_join   (a0 : Int32) (a1 : Int32) (a2 : Int32) (s : SS) : ex (tb_X3_join (calE (es_X3_join))) rI [] (fun _ _ _ _ => none) 80 0 [some (.int a0), some (.int a1), some (.int a2)] [] s = f_X3_join a0 a1 a2 s := by
  rfl
set_option maxRecDepth 100000 in
set_option maxHeartbeats 4000000 in
theorem run_X3_join {l : Launch} {G : Gm}   (a0 : Int32) (a1 : Int32) (a2 : Int32) (s : SS) (q : (Int32 × SS)) (h : f_X3_join a0 a1 a2 s = some q) (D' : Nat) (hD : 0 ≤ D') : RunsM l G (D' + 1) (md 29) (embS s) [.int a0, .int a1, .int a2] (some (.int q.1)) (embS q.2) := by
  rw [md_X3_join]
  refine runs_I (plainFor_of_name (by decide +kernel)) (Nat.le_of_ble_eq_true rfl) rfl ?_
  intro A p e R s0 m args below meth c Q ad0 hR X hret
  have X : Cx G A RX3 cX3_join 3 p s0 m args c := X
  have hT := tk_X3_join X (calE_ok (es := es_X3_join) (enn)) (rmD rfl hR) hret
  rw [← eq_X3_join   a0 a1 a2 s] at h
  refine ex_good hT (fun pc' ls' st' x' hh => ?_) 80 0 _ [] s h
  cases hh

noncomputable def en_X3_join  : En := fun _ av s k => match av with
  | [.int a0, .int a1, .int a2] => (bI (f_X3_join a0 a1 a2 s) k)
  | _ => none
set_option maxRecDepth 100000 in
set_option maxHeartbeats 4000000 in
theorem en_X3_join_ok {l : Launch} {G : Gm} (D : Nat) (hD : 1 ≤ D) : enOK l G D 29 en_X3_join := by
  intro ρ av x k r h
  unfold en_X3_join at h
  split at h
  · obtain ⟨q, h1, h2⟩ := bind_of h
    obtain ⟨D', rfl⟩ : ∃ D', D = D' + 1 := ⟨D - 1, by omega⟩
    exact ⟨_, _, h2, run_X3_join  _ _ _ _ _ h1 D' (by omega)⟩
  · cases h

/-! HatRank$Formula work -/
noncomputable def tb_X3_work (cal : Cal SS) : List (Nat × Ins SS) := [(0, e_iconst (6) 2), (2, e_istore 1 3), (3, e_iload 1 4), (4, e_aload 0 5), (5, e_getI opsS 3 6 8), (8, e_cge 106 11), (11, e_aload 0 12), (12, e_getR opsS 3 0 15), (15, e_iload 1 16), (16, e_ald opsS 100 17), (17, e_iconst (48) 19), (19, e_cne 37 22), (22, e_aload 0 23), (23, e_getR opsS 3 3 26), (26, e_iload 1 27), (27, e_aload 0 28), (28, e_getR opsS 3 1 31), (31, e_iload 1 32), (32, e_ald opsS 100 33), (33, e_ast opsS 100 (fun v => v) 34), (34, e_goto 100), (37, e_aload 0 38), (38, e_aload 0 39), (39, e_getR opsS 3 1 42), (42, e_iload 1 43), (43, e_ald opsS 100 44), (44, e_callV opsS cal 28 1 3 47), (47, e_ifeq 100 50), (50, e_aload 0 51), (51, e_aload 0 52), (52, e_getR opsS 3 2 55), (55, e_iload 1 56), (56, e_ald opsS 100 57), (57, e_callV opsS cal 28 1 3 60), (60, e_ifeq 100 63), (63, e_aload 0 64), (64, e_getR opsS 3 3 67), (67, e_iload 1 68), (68, e_aload 0 69), (69, e_getR opsS 3 0 72), (72, e_iload 1 73), (73, e_ald opsS 100 74), (74, e_aload 0 75), (75, e_getR opsS 3 3 78), (78, e_aload 0 79), (79, e_getR opsS 3 1 82), (82, e_iload 1 83), (83, e_ald opsS 100 84), (84, e_ald opsS 100 85), (85, e_aload 0 86), (86, e_getR opsS 3 3 89), (89, e_aload 0 90), (90, e_getR opsS 3 2 93), (93, e_iload 1 94), (94, e_ald opsS 100 95), (95, e_ald opsS 100 96), (96, e_callS cal 29 3 99), (99, e_ast opsS 100 (fun v => v) 100), (100, e_iinc 1 (1) 103), (103, e_goto 3), (106, e_iconst (0) 107), (107, e_istore 1 108), (108, e_iload 1 109), (109, e_aload 0 110), (110, e_getI opsS 3 7 113), (113, e_cge 180 116), (116, e_aload 0 117), (117, e_getR opsS 3 4 120), (120, e_iload 1 121), (121, e_ald opsS 100 122), (122, e_istore 2 123), (123, e_iload 2 124), (124, e_iconst (-1) 125), (125, e_ceq 145 128), (128, e_aload 0 129), (129, e_iload 2 130), (130, e_callV opsS cal 28 1 3 133), (133, e_ifeq 174 136), (136, e_aload 0 137), (137, e_getR opsS 3 3 140), (140, e_iload 2 141), (141, e_ald opsS 100 142), (142, e_ifeq 174 145), (145, e_aload 0 146), (146, e_aload 0 147), (147, e_getR opsS 3 5 150), (150, e_iload 1 151), (151, e_ald opsS 100 152), (152, e_callV opsS cal 28 1 3 155), (155, e_ifeq 172 158), (158, e_aload 0 159), (159, e_getR opsS 3 3 162), (162, e_aload 0 163), (163, e_getR opsS 3 5 166), (166, e_iload 1 167), (167, e_ald opsS 100 168), (168, e_ald opsS 100 169), (169, e_goto 173), (172, e_iconst (0) 173), (173, e_iret), (174, e_iinc 1 (1) 177), (177, e_goto 108), (180, e_iconst (0) 181), (181, e_iret)]
set_option maxRecDepth 100000 in
set_option maxHeartbeats 4000000 in
theorem tk_X3_work {ad0 : Nat → Nat} {G : Gm} {A : Nat → Prop} {p : Program} {l : Launch} {e : Env} {R : Room} {s0 : State} {m : MethodId} {args : Array Value} {below : List Frame} {meth : Method} {c : Code} {Q : State → Prop} {ρ : Type} {ret : Option Value → SS → Option ρ} {r : ρ} (X : Cx G A RX3 cX3_work 3 p s0 m args c) {D' : Nat} {cal : Cal SS} (hcal : calOK l G opsS D' cal) (hRm : ∀ k, k ≤ 21 → D' + 1 ≤ R.frames ∧ 8 + (k + 11) + 40 * D' ≤ R.locals) (hret : RetK G A cX3_work 113 6344 ad0 p l e R s0 m args below meth c Q opsS ret r .ireturn okI) : ∀ q ∈ tb_X3_work cal, OKi G A 3 113 6344 ad0 p l e R s0 m args below meth c Q opsS ret r q.1 q.2 :=
    okc (ok_bipush (n := 6) X (by decide +kernel) rfl rfl) (
    okc (ok_istore_n (j := 1) X (by decide +kernel) rfl rfl) (
    okc (ok_iload_n (j := 1) X (by decide +kernel) rfl rfl) (
    okc (ok_aload_n (j := 0) X (by decide +kernel) rfl rfl) (
    okc (ok_getI (ci := 3) (kf := 6) (idx := 30) (C := RX3) (T := TX3) (N := 8) X rfl (by decide) inX3 (by decide) wf_X3_30 (fun _ _ _ => rfl) (by decide +kernel) rfl) (
    okc (ok_cge (off := 98) X (by decide +kernel) (by decide) rfl) (
    okc (ok_aload_n (j := 0) X (by decide +kernel) rfl rfl) (
    okc (ok_getR (ci := 3) (kf := 0) (idx := 11) (C := RX3) (T := TX3) (N := 8) X rfl (by decide) inX3 (by decide) wf_X3_11 (fun _ _ _ => rfl) (by decide +kernel) rfl) (
    okc (ok_iload_n (j := 1) X (by decide +kernel) rfl rfl) (
    okc (ok_iald X (by decide +kernel) rfl) (
    okc (ok_bipush (n := 48) X (by decide +kernel) rfl rfl) (
    okc (ok_cne (off := 18) X (by decide +kernel) (by decide) rfl) (
    okc (ok_aload_n (j := 0) X (by decide +kernel) rfl rfl) (
    okc (ok_getR (ci := 3) (kf := 3) (idx := 21) (C := RX3) (T := TX3) (N := 8) X rfl (by decide) inX3 (by decide) wf_X3_21 (fun _ _ _ => rfl) (by decide +kernel) rfl) (
    okc (ok_iload_n (j := 1) X (by decide +kernel) rfl rfl) (
    okc (ok_aload_n (j := 0) X (by decide +kernel) rfl rfl) (
    okc (ok_getR (ci := 3) (kf := 1) (idx := 15) (C := RX3) (T := TX3) (N := 8) X rfl (by decide) inX3 (by decide) wf_X3_15 (fun _ _ _ => rfl) (by decide +kernel) rfl) (
    okc (ok_iload_n (j := 1) X (by decide +kernel) rfl rfl) (
    okc (ok_iald X (by decide +kernel) rfl) (
    okc (ok_iast X opsS_ok (by decide +kernel) rfl) (
    okc (ok_goto (off := 66) X (by decide +kernel) (by decide)) (
    okc (ok_aload_n (j := 0) X (by decide +kernel) rfl rfl) (
    okc (ok_aload_n (j := 0) X (by decide +kernel) rfl rfl) (
    okc (ok_getR (ci := 3) (kf := 1) (idx := 15) (C := RX3) (T := TX3) (N := 8) X rfl (by decide) inX3 (by decide) wf_X3_15 (fun _ _ _ => rfl) (by decide +kernel) rfl) (
    okc (ok_iload_n (j := 1) X (by decide +kernel) rfl rfl) (
    okc (ok_iald X (by decide +kernel) rfl) (
    okc (ok_callV (ci := 3) (C := RX3) (T := TX3) (N := 8) (Y := (yX3_has, cX3_has, 2, (some .boolean))) X hcal opsS_n md_X3_has rfl (by decide) rfl wc_X3_has wl_X3_37 wi_X3 wm_X3_has wv_X3_has (by decide +kernel) (hRm 2 (by decide)) (by decide +kernel) rfl) (
    okc (ok_ifeq (off := 53) X (by decide +kernel) (by decide) rfl) (
    okc (ok_aload_n (j := 0) X (by decide +kernel) rfl rfl) (
    okc (ok_aload_n (j := 0) X (by decide +kernel) rfl rfl) (
    okc (ok_getR (ci := 3) (kf := 2) (idx := 18) (C := RX3) (T := TX3) (N := 8) X rfl (by decide) inX3 (by decide) wf_X3_18 (fun _ _ _ => rfl) (by decide +kernel) rfl) (
    okc (ok_iload_n (j := 1) X (by decide +kernel) rfl rfl) (
    okc (ok_iald X (by decide +kernel) rfl) (
    okc (ok_callV (ci := 3) (C := RX3) (T := TX3) (N := 8) (Y := (yX3_has, cX3_has, 2, (some .boolean))) X hcal opsS_n md_X3_has rfl (by decide) rfl wc_X3_has wl_X3_37 wi_X3 wm_X3_has wv_X3_has (by decide +kernel) (hRm 2 (by decide)) (by decide +kernel) rfl) (
    okc (ok_ifeq (off := 40) X (by decide +kernel) (by decide) rfl) (
    okc (ok_aload_n (j := 0) X (by decide +kernel) rfl rfl) (
    okc (ok_getR (ci := 3) (kf := 3) (idx := 21) (C := RX3) (T := TX3) (N := 8) X rfl (by decide) inX3 (by decide) wf_X3_21 (fun _ _ _ => rfl) (by decide +kernel) rfl) (
    okc (ok_iload_n (j := 1) X (by decide +kernel) rfl rfl) (
    okc (ok_aload_n (j := 0) X (by decide +kernel) rfl rfl) (
    okc (ok_getR (ci := 3) (kf := 0) (idx := 11) (C := RX3) (T := TX3) (N := 8) X rfl (by decide) inX3 (by decide) wf_X3_11 (fun _ _ _ => rfl) (by decide +kernel) rfl) (
    okc (ok_iload_n (j := 1) X (by decide +kernel) rfl rfl) (
    okc (ok_iald X (by decide +kernel) rfl) (
    okc (ok_aload_n (j := 0) X (by decide +kernel) rfl rfl) (
    okc (ok_getR (ci := 3) (kf := 3) (idx := 21) (C := RX3) (T := TX3) (N := 8) X rfl (by decide) inX3 (by decide) wf_X3_21 (fun _ _ _ => rfl) (by decide +kernel) rfl) (
    okc (ok_aload_n (j := 0) X (by decide +kernel) rfl rfl) (
    okc (ok_getR (ci := 3) (kf := 1) (idx := 15) (C := RX3) (T := TX3) (N := 8) X rfl (by decide) inX3 (by decide) wf_X3_15 (fun _ _ _ => rfl) (by decide +kernel) rfl) (
    okc (ok_iload_n (j := 1) X (by decide +kernel) rfl rfl) (
    okc (ok_iald X (by decide +kernel) rfl) (
    okc (ok_iald X (by decide +kernel) rfl) (
    okc (ok_aload_n (j := 0) X (by decide +kernel) rfl rfl) (
    okc (ok_getR (ci := 3) (kf := 3) (idx := 21) (C := RX3) (T := TX3) (N := 8) X rfl (by decide) inX3 (by decide) wf_X3_21 (fun _ _ _ => rfl) (by decide +kernel) rfl) (
    okc (ok_aload_n (j := 0) X (by decide +kernel) rfl rfl) (
    okc (ok_getR (ci := 3) (kf := 2) (idx := 18) (C := RX3) (T := TX3) (N := 8) X rfl (by decide) inX3 (by decide) wf_X3_18 (fun _ _ _ => rfl) (by decide +kernel) rfl) (
    okc (ok_iload_n (j := 1) X (by decide +kernel) rfl rfl) (
    okc (ok_iald X (by decide +kernel) rfl) (
    okc (ok_iald X (by decide +kernel) rfl) (
    okc (ok_callS (Y := (yX3_join, cX3_join, 3, (some .int))) X hcal opsS_n md_X3_join wc_X3_join wl_X3_41 wi_X3 ws_X3_join (by decide +kernel) (hRm 3 (by decide)) (by decide +kernel) rfl) (
    okc (ok_iast X opsS_ok (by decide +kernel) rfl) (
    okc (ok_iinc (n := 1) X (by decide +kernel) rfl rfl) (
    okc (ok_goto (off := -100) X (by decide +kernel) (by decide)) (
    okc (ok_iconst (n := 0) X (by decide +kernel) rfl rfl) (
    okc (ok_istore_n (j := 1) X (by decide +kernel) rfl rfl) (
    okc (ok_iload_n (j := 1) X (by decide +kernel) rfl rfl) (
    okc (ok_aload_n (j := 0) X (by decide +kernel) rfl rfl) (
    okc (ok_getI (ci := 3) (kf := 7) (idx := 34) (C := RX3) (T := TX3) (N := 8) X rfl (by decide) inX3 (by decide) wf_X3_34 (fun _ _ _ => rfl) (by decide +kernel) rfl) (
    okc (ok_cge (off := 67) X (by decide +kernel) (by decide) rfl) (
    okc (ok_aload_n (j := 0) X (by decide +kernel) rfl rfl) (
    okc (ok_getR (ci := 3) (kf := 4) (idx := 24) (C := RX3) (T := TX3) (N := 8) X rfl (by decide) inX3 (by decide) wf_X3_24 (fun _ _ _ => rfl) (by decide +kernel) rfl) (
    okc (ok_iload_n (j := 1) X (by decide +kernel) rfl rfl) (
    okc (ok_iald X (by decide +kernel) rfl) (
    okc (ok_istore_n (j := 2) X (by decide +kernel) rfl rfl) (
    okc (ok_iload_n (j := 2) X (by decide +kernel) rfl rfl) (
    okc (ok_iconst (n := -1) X (by decide +kernel) rfl rfl) (
    okc (ok_ceq (off := 20) X (by decide +kernel) (by decide) rfl) (
    okc (ok_aload_n (j := 0) X (by decide +kernel) rfl rfl) (
    okc (ok_iload_n (j := 2) X (by decide +kernel) rfl rfl) (
    okc (ok_callV (ci := 3) (C := RX3) (T := TX3) (N := 8) (Y := (yX3_has, cX3_has, 2, (some .boolean))) X hcal opsS_n md_X3_has rfl (by decide) rfl wc_X3_has wl_X3_37 wi_X3 wm_X3_has wv_X3_has (by decide +kernel) (hRm 2 (by decide)) (by decide +kernel) rfl) (
    okc (ok_ifeq (off := 41) X (by decide +kernel) (by decide) rfl) (
    okc (ok_aload_n (j := 0) X (by decide +kernel) rfl rfl) (
    okc (ok_getR (ci := 3) (kf := 3) (idx := 21) (C := RX3) (T := TX3) (N := 8) X rfl (by decide) inX3 (by decide) wf_X3_21 (fun _ _ _ => rfl) (by decide +kernel) rfl) (
    okc (ok_iload_n (j := 2) X (by decide +kernel) rfl rfl) (
    okc (ok_iald X (by decide +kernel) rfl) (
    okc (ok_ifeq (off := 32) X (by decide +kernel) (by decide) rfl) (
    okc (ok_aload_n (j := 0) X (by decide +kernel) rfl rfl) (
    okc (ok_aload_n (j := 0) X (by decide +kernel) rfl rfl) (
    okc (ok_getR (ci := 3) (kf := 5) (idx := 27) (C := RX3) (T := TX3) (N := 8) X rfl (by decide) inX3 (by decide) wf_X3_27 (fun _ _ _ => rfl) (by decide +kernel) rfl) (
    okc (ok_iload_n (j := 1) X (by decide +kernel) rfl rfl) (
    okc (ok_iald X (by decide +kernel) rfl) (
    okc (ok_callV (ci := 3) (C := RX3) (T := TX3) (N := 8) (Y := (yX3_has, cX3_has, 2, (some .boolean))) X hcal opsS_n md_X3_has rfl (by decide) rfl wc_X3_has wl_X3_37 wi_X3 wm_X3_has wv_X3_has (by decide +kernel) (hRm 2 (by decide)) (by decide +kernel) rfl) (
    okc (ok_ifeq (off := 17) X (by decide +kernel) (by decide) rfl) (
    okc (ok_aload_n (j := 0) X (by decide +kernel) rfl rfl) (
    okc (ok_getR (ci := 3) (kf := 3) (idx := 21) (C := RX3) (T := TX3) (N := 8) X rfl (by decide) inX3 (by decide) wf_X3_21 (fun _ _ _ => rfl) (by decide +kernel) rfl) (
    okc (ok_aload_n (j := 0) X (by decide +kernel) rfl rfl) (
    okc (ok_getR (ci := 3) (kf := 5) (idx := 27) (C := RX3) (T := TX3) (N := 8) X rfl (by decide) inX3 (by decide) wf_X3_27 (fun _ _ _ => rfl) (by decide +kernel) rfl) (
    okc (ok_iload_n (j := 1) X (by decide +kernel) rfl rfl) (
    okc (ok_iald X (by decide +kernel) rfl) (
    okc (ok_iald X (by decide +kernel) rfl) (
    okc (ok_goto (off := 4) X (by decide +kernel) (by decide)) (
    okc (ok_iconst (n := 0) X (by decide +kernel) rfl rfl) (
    okc (ok_iret hret (by decide +kernel)) (
    okc (ok_iinc (n := 1) X (by decide +kernel) rfl rfl) (
    okc (ok_goto (off := -69) X (by decide +kernel) (by decide)) (
    okc (ok_iconst (n := 0) X (by decide +kernel) rfl rfl) (
    okc (ok_iret hret (by decide +kernel)) (
    okn))))))))))))))))))))))))))))))))))))))))))))))))))))))))))))))))))))))))))))))))))))))))))))))))))))))))
noncomputable def es_X3_work  : List (Nat × En) := [(28, en_X3_has), (29, en_X3_join)]
noncomputable def ka_X3_work_108 (d : Nat)  (n : Nat) : Kn SS (Int32 × SS) := fun pc ls st s => bif Nat.beq pc 108 then (match ls, st with
    | [some y0, some (.int x1), _], [] => (gd (veq y0 (.ref d)) (F_X3_work_108 d n x1 s))
    | _, _ => none) else (none)
set_option maxRecDepth 100000 in
set_option maxHeartbeats 4000000 in
theorem eq_X3_work_108 (d : Nat)  (hd : (Nat.beq d 13 || Nat.beq d 20) = true) (n : Nat) (x1 : Int32) (s : SS) : ex (tb_X3_work (calE (es_X3_work))) rI [3, 108] (ka_X3_work_108 d  n) 106 108 [some (.ref d), some (.int x1), none] [] s = F_X3_work_108 d  (n + 1) x1 s := by
  rcases beq2 hd with rfl | rfl <;> rfl
noncomputable def ka_X3_work_3 (d : Nat)  (n : Nat) : Kn SS (Int32 × SS) := fun pc ls st s => bif Nat.beq pc 3 then (match ls, st with
    | [some y0, some (.int x1), _], [] => (gd (veq y0 (.ref d)) (F_X3_work_3 d n x1 s))
    | _, _ => none) else (bif Nat.beq pc 108 then (match ls, st with
    | [some y0, some (.int x1), _], [] => (gd (veq y0 (.ref d)) (F_X3_work_108 d fuel0 x1 s))
    | _, _ => none) else (none))
set_option maxRecDepth 100000 in
set_option maxHeartbeats 4000000 in
theorem eq_X3_work_3 (d : Nat)  (hd : (Nat.beq d 13 || Nat.beq d 20) = true) (n : Nat) (x1 : Int32) (s : SS) : ex (tb_X3_work (calE (es_X3_work))) rI [3, 108] (ka_X3_work_3 d  n) 106 3 [some (.ref d), some (.int x1), none] [] s = F_X3_work_3 d  (n + 1) x1 s := by
  rcases beq2 hd with rfl | rfl <;> rfl
set_option maxRecDepth 100000 in
set_option maxHeartbeats 4000000 in
theorem gd_X3_work_108 {ad0 : Nat → Nat} {G : Gm} {A : Nat → Prop} {p : Program} {l : Launch} {e : Env} {R : Room} {s0 : State} {m : MethodId} {args : Array Value} {below : List Frame} {meth : Method} {c : Code} {Q : State → Prop} {r : (Int32 × SS)} {d : Nat}  (hT : ∀ q ∈ tb_X3_work (calE (es_X3_work)), OKi G A 3 113 6344 ad0 p l e R s0 m args below meth c Q opsS rI r q.1 q.2)  (hd : (Nat.beq d 13 || Nat.beq d 20) = true) : ∀ (n : Nat) (x1 : Int32) (s : SS), F_X3_work_108 d  n x1 s = some r → Gd G A 3 113 6344 ad0 p l e R s0 m args below meth c Q opsS 108 [some (.ref d), some (.int x1), none] [] s := by
  intro n
  induction n with
  | zero =>
    intro x1 s hh
    exact absurd (show (none : Option (Int32 × SS)) = some r from hh) (by simp)
  | succ n ih =>
    intro x1 s hh
    rw [← eq_X3_work_108 d  hd n x1 s] at hh
    refine ex_good hT (fun pc' ls' st' x' hh => ?_) 106 108 _ [] s hh
    unfold ka_X3_work_108 at hh
    cases hb : Nat.beq pc' 108 with
    | true =>
      rw [hb] at hh
      have e9 := beq1 hb
      subst e9
      simp only [cond_true] at hh
      split at hh
      · obtain ⟨g0, hh1⟩ := gd_some hh
        have e0 := veq_of g0
        subst e0
        exact Gd.wk (ih _ _ hh1) (Lle.eq (Lle.eq (Lle.no Lle.nil)))
      · cases hh
    | false =>
      rw [hb] at hh
      simp only [cond_false] at hh
      cases hh

set_option maxRecDepth 100000 in
set_option maxHeartbeats 4000000 in
theorem gd_X3_work_3 {ad0 : Nat → Nat} {G : Gm} {A : Nat → Prop} {p : Program} {l : Launch} {e : Env} {R : Room} {s0 : State} {m : MethodId} {args : Array Value} {below : List Frame} {meth : Method} {c : Code} {Q : State → Prop} {r : (Int32 × SS)} {d : Nat}  (hT : ∀ q ∈ tb_X3_work (calE (es_X3_work)), OKi G A 3 113 6344 ad0 p l e R s0 m args below meth c Q opsS rI r q.1 q.2)  (hd : (Nat.beq d 13 || Nat.beq d 20) = true) : ∀ (n : Nat) (x1 : Int32) (s : SS), F_X3_work_3 d  n x1 s = some r → Gd G A 3 113 6344 ad0 p l e R s0 m args below meth c Q opsS 3 [some (.ref d), some (.int x1), none] [] s := by
  intro n
  induction n with
  | zero =>
    intro x1 s hh
    exact absurd (show (none : Option (Int32 × SS)) = some r from hh) (by simp)
  | succ n ih =>
    intro x1 s hh
    rw [← eq_X3_work_3 d  hd n x1 s] at hh
    refine ex_good hT (fun pc' ls' st' x' hh => ?_) 106 3 _ [] s hh
    unfold ka_X3_work_3 at hh
    cases hb : Nat.beq pc' 3 with
    | true =>
      rw [hb] at hh
      have e9 := beq1 hb
      subst e9
      simp only [cond_true] at hh
      split at hh
      · obtain ⟨g0, hh1⟩ := gd_some hh
        have e0 := veq_of g0
        subst e0
        exact Gd.wk (ih _ _ hh1) (Lle.eq (Lle.eq (Lle.no Lle.nil)))
      · cases hh
    | false =>
      rw [hb] at hh
      simp only [cond_false] at hh
      cases hb : Nat.beq pc' 108 with
      | true =>
        rw [hb] at hh
        have e9 := beq1 hb
        subst e9
        simp only [cond_true] at hh
        split at hh
        · obtain ⟨g0, hh1⟩ := gd_some hh
          have e0 := veq_of g0
          subst e0
          exact Gd.wk (gd_X3_work_108 hT  hd _ _ _ hh1) (Lle.eq (Lle.eq (Lle.no Lle.nil)))
        · cases hh
      | false =>
        rw [hb] at hh
        simp only [cond_false] at hh
        cases hh

noncomputable def ka_X3_work (d : Nat) : Kn SS (Int32 × SS) := fun pc ls st s => bif Nat.beq pc 3 then (match ls, st with
    | [some y0, some (.int x1), _], [] => (gd (veq y0 (.ref d)) (F_X3_work_3 d fuel0 x1 s))
    | _, _ => none) else (none)
set_option maxRecDepth 100000 in
set_option maxHeartbeats 4000000 in
theorem eq_X3_work (d : Nat) (hd : (Nat.beq d 13 || Nat.beq d 20) = true)  (s : SS) : ex (tb_X3_work (calE (es_X3_work))) rI [3, 108] (ka_X3_work d) 106 0 [some (.ref d), none, none] [] s = f_X3_work d s := by
  rcases beq2 hd with rfl | rfl <;> rfl
set_option maxRecDepth 100000 in
set_option maxHeartbeats 4000000 in
theorem run_X3_work {l : Launch} {G : Gm} {d : Nat} (hd : (Nat.beq d 13 || Nat.beq d 20) = true)  (s : SS) (q : (Int32 × SS)) (h : f_X3_work d s = some q) (D' : Nat) (hD : 1 ≤ D') : RunsM l G (D' + 1) (md 27) (embS s) [.ref d] (some (.int q.1)) (embS q.2) := by
  rw [md_X3_work]
  refine runs_I (plainFor_of_name (by decide +kernel)) (Nat.le_of_ble_eq_true rfl) rfl ?_
  intro A p e R s0 m args below meth c Q ad0 hR X hret
  have X : Cx G A RX3 cX3_work 3 p s0 m args c := X
  have hT := tk_X3_work X (calE_ok (es := es_X3_work) (enc (en_X3_has_ok _ (by omega)) (enc (en_X3_join_ok _ (by omega)) (enn)))) (rmD rfl hR) hret
  rw [← eq_X3_work d hd  s] at h
  refine ex_good hT (fun pc' ls' st' x' hh => ?_) 106 0 _ [] s h
  unfold ka_X3_work at hh
  cases hb : Nat.beq pc' 3 with
  | true =>
    rw [hb] at hh
    have e9 := beq1 hb
    subst e9
    simp only [cond_true] at hh
    split at hh
    · obtain ⟨g0, hh1⟩ := gd_some hh
      have e0 := veq_of g0
      subst e0
      exact Gd.wk (gd_X3_work_3 hT hd _ _ _ hh1) (Lle.eq (Lle.eq (Lle.no Lle.nil)))
    · cases hh
  | false =>
    rw [hb] at hh
    simp only [cond_false] at hh
    cases hh

noncomputable def en_X3_work  : En := fun _ av s k => match av with
  | [.ref d] => (gd (Nat.beq d 13 || Nat.beq d 20) (bI (f_X3_work d s) k))
  | _ => none
set_option maxRecDepth 100000 in
set_option maxHeartbeats 4000000 in
theorem en_X3_work_ok {l : Launch} {G : Gm} (D : Nat) (hD : 2 ≤ D) : enOK l G D 27 en_X3_work := by
  intro ρ av x k r h
  unfold en_X3_work at h
  split at h
  · obtain ⟨g0, h⟩ := gd_some h
    obtain ⟨q, h1, h2⟩ := bind_of h
    obtain ⟨D', rfl⟩ : ∃ D', D = D' + 1 := ⟨D - 1, by omega⟩
    exact ⟨_, _, h2, run_X3_work g0  _ _ h1 D' (by omega)⟩
  · cases h

/-! HatRank$Shelves has -/
noncomputable def tb_X7_has (cal : Cal SS) : List (Nat × Ins SS) := [(0, e_iload 1 1), (1, e_iflt 14 4), (4, e_iload 1 5), (5, e_iconst (6) 7), (7, e_cge 14 10), (10, e_iconst (1) 11), (11, e_goto 15), (14, e_iconst (0) 15), (15, e_zret)]
set_option maxRecDepth 100000 in
set_option maxHeartbeats 4000000 in
theorem tk_X7_has {ad0 : Nat → Nat} {G : Gm} {A : Nat → Prop} {p : Program} {l : Launch} {e : Env} {R : Room} {s0 : State} {m : MethodId} {args : Array Value} {below : List Frame} {meth : Method} {c : Code} {Q : State → Prop} {ρ : Type} {ret : Option Value → SS → Option ρ} {r : ρ} (X : Cx G A RX7 cX7_has 2 p s0 m args c) {D' : Nat} {cal : Cal SS} (hcal : calOK l G opsS D' cal) (hRm : ∀ k, k ≤ 21 → D' + 1 ≤ R.frames ∧ 8 + (k + 11) + 40 * D' ≤ R.locals) (hret : RetK G A cX7_has 113 6344 ad0 p l e R s0 m args below meth c Q opsS ret r .ireturn okZ) : ∀ q ∈ tb_X7_has cal, OKi G A 2 113 6344 ad0 p l e R s0 m args below meth c Q opsS ret r q.1 q.2 :=
    okc (ok_iload_n (j := 1) X (by decide +kernel) rfl rfl) (
    okc (ok_iflt (off := 13) X (by decide +kernel) (by decide) rfl) (
    okc (ok_iload_n (j := 1) X (by decide +kernel) rfl rfl) (
    okc (ok_bipush (n := 6) X (by decide +kernel) rfl rfl) (
    okc (ok_cge (off := 7) X (by decide +kernel) (by decide) rfl) (
    okc (ok_iconst (n := 1) X (by decide +kernel) rfl rfl) (
    okc (ok_goto (off := 4) X (by decide +kernel) (by decide)) (
    okc (ok_iconst (n := 0) X (by decide +kernel) rfl rfl) (
    okc (ok_zret hret (by decide +kernel)) (
    okn)))))))))
noncomputable def es_X7_has  : List (Nat × En) := []
set_option maxRecDepth 100000 in
set_option maxHeartbeats 4000000 in
theorem eq_X7_has   (a0 : Int32) (s : SS) : ex (tb_X7_has (calE (es_X7_has))) rI [] (fun _ _ _ _ => none) 11 0 [some (.ref 58), some (.int a0)] [] s = f_X7_has a0 s := by
  rfl
set_option maxRecDepth 100000 in
set_option maxHeartbeats 4000000 in
theorem run_X7_has {l : Launch} {G : Gm}   (a0 : Int32) (s : SS) (q : (Int32 × SS)) (h : f_X7_has a0 s = some q) (D' : Nat) (hD : 0 ≤ D') : RunsM l G (D' + 1) (md 47) (embS s) [.ref 58, .int a0] (some (.int q.1)) (embS q.2) := by
  rw [md_X7_has]
  refine runs_Z (plainFor_of_name (by decide +kernel)) (Nat.le_of_ble_eq_true rfl) rfl ?_
  intro A p e R s0 m args below meth c Q ad0 hR X hret
  have X : Cx G A RX7 cX7_has 2 p s0 m args c := X
  have hT := tk_X7_has X (calE_ok (es := es_X7_has) (enn)) (rmD rfl hR) hret
  rw [← eq_X7_has   a0 s] at h
  refine ex_good hT (fun pc' ls' st' x' hh => ?_) 11 0 _ [] s h
  cases hh

noncomputable def en_X7_has  : En := fun _ av s k => match av with
  | [.ref r0, .int a0] => (gd (Nat.beq r0 58) (bI (f_X7_has a0 s) k))
  | _ => none
set_option maxRecDepth 100000 in
set_option maxHeartbeats 4000000 in
theorem en_X7_has_ok {l : Launch} {G : Gm} (D : Nat) (hD : 1 ≤ D) : enOK l G D 47 en_X7_has := by
  intro ρ av x k r h
  unfold en_X7_has at h
  split at h
  · obtain ⟨g0, h⟩ := gd_some h
    obtain ⟨q, h1, h2⟩ := bind_of h
    have e0 := beq1 g0
    subst e0
    obtain ⟨D', rfl⟩ : ∃ D', D = D' + 1 := ⟨D - 1, by omega⟩
    exact ⟨_, _, h2, run_X7_has  _ _ _ h1 D' (by omega)⟩
  · cases h

/-! HatRank$Shelves holdsNothing -/
noncomputable def tb_X7_holdsNothing (cal : Cal SS) : List (Nat × Ins SS) := [(0, e_aload 0 1), (1, e_iload 1 2), (2, e_callV opsS cal 47 1 7 5), (5, e_ifeq 18 8), (8, e_aload 0 9), (9, e_getR opsS 7 0 12), (12, e_iload 1 13), (13, e_ald opsS 100 14), (14, e_iconst (-1) 15), (15, e_cne 22 18), (18, e_iconst (1) 19), (19, e_goto 23), (22, e_iconst (0) 23), (23, e_zret)]
set_option maxRecDepth 100000 in
set_option maxHeartbeats 4000000 in
theorem tk_X7_holdsNothing {ad0 : Nat → Nat} {G : Gm} {A : Nat → Prop} {p : Program} {l : Launch} {e : Env} {R : Room} {s0 : State} {m : MethodId} {args : Array Value} {below : List Frame} {meth : Method} {c : Code} {Q : State → Prop} {ρ : Type} {ret : Option Value → SS → Option ρ} {r : ρ} (X : Cx G A RX7 cX7_holdsNothing 2 p s0 m args c) {D' : Nat} {cal : Cal SS} (hcal : calOK l G opsS D' cal) (hRm : ∀ k, k ≤ 21 → D' + 1 ≤ R.frames ∧ 8 + (k + 11) + 40 * D' ≤ R.locals) (hret : RetK G A cX7_holdsNothing 113 6344 ad0 p l e R s0 m args below meth c Q opsS ret r .ireturn okZ) : ∀ q ∈ tb_X7_holdsNothing cal, OKi G A 2 113 6344 ad0 p l e R s0 m args below meth c Q opsS ret r q.1 q.2 :=
    okc (ok_aload_n (j := 0) X (by decide +kernel) rfl rfl) (
    okc (ok_iload_n (j := 1) X (by decide +kernel) rfl rfl) (
    okc (ok_callV (ci := 7) (C := RX7) (T := TX7) (N := 4) (Y := (yX7_has, cX7_has, 2, (some .boolean))) X hcal opsS_n md_X7_has rfl (by decide) rfl wc_X7_has wl_X7_32 wi_X7 wm_X7_has wv_X7_has (by decide +kernel) (hRm 2 (by decide)) (by decide +kernel) rfl) (
    okc (ok_ifeq (off := 13) X (by decide +kernel) (by decide) rfl) (
    okc (ok_aload_n (j := 0) X (by decide +kernel) rfl rfl) (
    okc (ok_getR (ci := 7) (kf := 0) (idx := 11) (C := RX7) (T := TX7) (N := 4) X rfl (by decide) inX7 (by decide) wf_X7_11 (fun _ _ _ => rfl) (by decide +kernel) rfl) (
    okc (ok_iload_n (j := 1) X (by decide +kernel) rfl rfl) (
    okc (ok_iald X (by decide +kernel) rfl) (
    okc (ok_iconst (n := -1) X (by decide +kernel) rfl rfl) (
    okc (ok_cne (off := 7) X (by decide +kernel) (by decide) rfl) (
    okc (ok_iconst (n := 1) X (by decide +kernel) rfl rfl) (
    okc (ok_goto (off := 4) X (by decide +kernel) (by decide)) (
    okc (ok_iconst (n := 0) X (by decide +kernel) rfl rfl) (
    okc (ok_zret hret (by decide +kernel)) (
    okn))))))))))))))
noncomputable def es_X7_holdsNothing  : List (Nat × En) := [(47, en_X7_has)]
set_option maxRecDepth 100000 in
set_option maxHeartbeats 4000000 in
theorem eq_X7_holdsNothing   (a0 : Int32) (s : SS) : ex (tb_X7_holdsNothing (calE (es_X7_holdsNothing))) rI [] (fun _ _ _ _ => none) 16 0 [some (.ref 58), some (.int a0)] [] s = f_X7_holdsNothing a0 s := by
  rfl
set_option maxRecDepth 100000 in
set_option maxHeartbeats 4000000 in
theorem run_X7_holdsNothing {l : Launch} {G : Gm}   (a0 : Int32) (s : SS) (q : (Int32 × SS)) (h : f_X7_holdsNothing a0 s = some q) (D' : Nat) (hD : 1 ≤ D') : RunsM l G (D' + 1) (md 48) (embS s) [.ref 58, .int a0] (some (.int q.1)) (embS q.2) := by
  rw [md_X7_holdsNothing]
  refine runs_Z (plainFor_of_name (by decide +kernel)) (Nat.le_of_ble_eq_true rfl) rfl ?_
  intro A p e R s0 m args below meth c Q ad0 hR X hret
  have X : Cx G A RX7 cX7_holdsNothing 2 p s0 m args c := X
  have hT := tk_X7_holdsNothing X (calE_ok (es := es_X7_holdsNothing) (enc (en_X7_has_ok _ (by omega)) (enn))) (rmD rfl hR) hret
  rw [← eq_X7_holdsNothing   a0 s] at h
  refine ex_good hT (fun pc' ls' st' x' hh => ?_) 16 0 _ [] s h
  cases hh

noncomputable def en_X7_holdsNothing  : En := fun _ av s k => match av with
  | [.ref r0, .int a0] => (gd (Nat.beq r0 58) (bI (f_X7_holdsNothing a0 s) k))
  | _ => none
set_option maxRecDepth 100000 in
set_option maxHeartbeats 4000000 in
theorem en_X7_holdsNothing_ok {l : Launch} {G : Gm} (D : Nat) (hD : 2 ≤ D) : enOK l G D 48 en_X7_holdsNothing := by
  intro ρ av x k r h
  unfold en_X7_holdsNothing at h
  split at h
  · obtain ⟨g0, h⟩ := gd_some h
    obtain ⟨q, h1, h2⟩ := bind_of h
    have e0 := beq1 g0
    subst e0
    obtain ⟨D', rfl⟩ : ∃ D', D = D' + 1 := ⟨D - 1, by omega⟩
    exact ⟨_, _, h2, run_X7_holdsNothing  _ _ _ h1 D' (by omega)⟩
  · cases h

/-! HatRank$Shelves holdsBytes -/
noncomputable def tb_X7_holdsBytes (cal : Cal SS) : List (Nat × Ins SS) := [(0, e_aload 0 1), (1, e_iload 1 2), (2, e_callV opsS cal 47 1 7 5), (5, e_ifeq 21 8), (8, e_aload 0 9), (9, e_getR opsS 7 0 12), (12, e_iload 1 13), (13, e_ald opsS 100 14), (14, e_ifne 21 17), (17, e_iconst (1) 18), (18, e_goto 22), (21, e_iconst (0) 22), (22, e_zret)]
set_option maxRecDepth 100000 in
set_option maxHeartbeats 4000000 in
theorem tk_X7_holdsBytes {ad0 : Nat → Nat} {G : Gm} {A : Nat → Prop} {p : Program} {l : Launch} {e : Env} {R : Room} {s0 : State} {m : MethodId} {args : Array Value} {below : List Frame} {meth : Method} {c : Code} {Q : State → Prop} {ρ : Type} {ret : Option Value → SS → Option ρ} {r : ρ} (X : Cx G A RX7 cX7_holdsBytes 2 p s0 m args c) {D' : Nat} {cal : Cal SS} (hcal : calOK l G opsS D' cal) (hRm : ∀ k, k ≤ 21 → D' + 1 ≤ R.frames ∧ 8 + (k + 11) + 40 * D' ≤ R.locals) (hret : RetK G A cX7_holdsBytes 113 6344 ad0 p l e R s0 m args below meth c Q opsS ret r .ireturn okZ) : ∀ q ∈ tb_X7_holdsBytes cal, OKi G A 2 113 6344 ad0 p l e R s0 m args below meth c Q opsS ret r q.1 q.2 :=
    okc (ok_aload_n (j := 0) X (by decide +kernel) rfl rfl) (
    okc (ok_iload_n (j := 1) X (by decide +kernel) rfl rfl) (
    okc (ok_callV (ci := 7) (C := RX7) (T := TX7) (N := 4) (Y := (yX7_has, cX7_has, 2, (some .boolean))) X hcal opsS_n md_X7_has rfl (by decide) rfl wc_X7_has wl_X7_32 wi_X7 wm_X7_has wv_X7_has (by decide +kernel) (hRm 2 (by decide)) (by decide +kernel) rfl) (
    okc (ok_ifeq (off := 16) X (by decide +kernel) (by decide) rfl) (
    okc (ok_aload_n (j := 0) X (by decide +kernel) rfl rfl) (
    okc (ok_getR (ci := 7) (kf := 0) (idx := 11) (C := RX7) (T := TX7) (N := 4) X rfl (by decide) inX7 (by decide) wf_X7_11 (fun _ _ _ => rfl) (by decide +kernel) rfl) (
    okc (ok_iload_n (j := 1) X (by decide +kernel) rfl rfl) (
    okc (ok_iald X (by decide +kernel) rfl) (
    okc (ok_ifne (off := 7) X (by decide +kernel) (by decide) rfl) (
    okc (ok_iconst (n := 1) X (by decide +kernel) rfl rfl) (
    okc (ok_goto (off := 4) X (by decide +kernel) (by decide)) (
    okc (ok_iconst (n := 0) X (by decide +kernel) rfl rfl) (
    okc (ok_zret hret (by decide +kernel)) (
    okn)))))))))))))
noncomputable def es_X7_holdsBytes  : List (Nat × En) := [(47, en_X7_has)]
set_option maxRecDepth 100000 in
set_option maxHeartbeats 4000000 in
theorem eq_X7_holdsBytes   (a0 : Int32) (s : SS) : ex (tb_X7_holdsBytes (calE (es_X7_holdsBytes))) rI [] (fun _ _ _ _ => none) 15 0 [some (.ref 58), some (.int a0)] [] s = f_X7_holdsBytes a0 s := by
  rfl
set_option maxRecDepth 100000 in
set_option maxHeartbeats 4000000 in
theorem run_X7_holdsBytes {l : Launch} {G : Gm}   (a0 : Int32) (s : SS) (q : (Int32 × SS)) (h : f_X7_holdsBytes a0 s = some q) (D' : Nat) (hD : 1 ≤ D') : RunsM l G (D' + 1) (md 49) (embS s) [.ref 58, .int a0] (some (.int q.1)) (embS q.2) := by
  rw [md_X7_holdsBytes]
  refine runs_Z (plainFor_of_name (by decide +kernel)) (Nat.le_of_ble_eq_true rfl) rfl ?_
  intro A p e R s0 m args below meth c Q ad0 hR X hret
  have X : Cx G A RX7 cX7_holdsBytes 2 p s0 m args c := X
  have hT := tk_X7_holdsBytes X (calE_ok (es := es_X7_holdsBytes) (enc (en_X7_has_ok _ (by omega)) (enn))) (rmD rfl hR) hret
  rw [← eq_X7_holdsBytes   a0 s] at h
  refine ex_good hT (fun pc' ls' st' x' hh => ?_) 15 0 _ [] s h
  cases hh

noncomputable def en_X7_holdsBytes  : En := fun _ av s k => match av with
  | [.ref r0, .int a0] => (gd (Nat.beq r0 58) (bI (f_X7_holdsBytes a0 s) k))
  | _ => none
set_option maxRecDepth 100000 in
set_option maxHeartbeats 4000000 in
theorem en_X7_holdsBytes_ok {l : Launch} {G : Gm} (D : Nat) (hD : 2 ≤ D) : enOK l G D 49 en_X7_holdsBytes := by
  intro ρ av x k r h
  unfold en_X7_holdsBytes at h
  split at h
  · obtain ⟨g0, h⟩ := gd_some h
    obtain ⟨q, h1, h2⟩ := bind_of h
    have e0 := beq1 g0
    subst e0
    obtain ⟨D', rfl⟩ : ∃ D', D = D' + 1 := ⟨D - 1, by omega⟩
    exact ⟨_, _, h2, run_X7_holdsBytes  _ _ _ h1 D' (by omega)⟩
  · cases h

/-! HatRank$Shelves holdsRow -/
noncomputable def tb_X7_holdsRow (cal : Cal SS) : List (Nat × Ins SS) := [(0, e_aload 0 1), (1, e_iload 1 2), (2, e_callV opsS cal 47 1 7 5), (5, e_ifeq 21 8), (8, e_aload 0 9), (9, e_getR opsS 7 0 12), (12, e_iload 1 13), (13, e_ald opsS 100 14), (14, e_iflt 21 17), (17, e_iconst (1) 18), (18, e_goto 22), (21, e_iconst (0) 22), (22, e_zret)]
set_option maxRecDepth 100000 in
set_option maxHeartbeats 4000000 in
theorem tk_X7_holdsRow {ad0 : Nat → Nat} {G : Gm} {A : Nat → Prop} {p : Program} {l : Launch} {e : Env} {R : Room} {s0 : State} {m : MethodId} {args : Array Value} {below : List Frame} {meth : Method} {c : Code} {Q : State → Prop} {ρ : Type} {ret : Option Value → SS → Option ρ} {r : ρ} (X : Cx G A RX7 cX7_holdsRow 2 p s0 m args c) {D' : Nat} {cal : Cal SS} (hcal : calOK l G opsS D' cal) (hRm : ∀ k, k ≤ 21 → D' + 1 ≤ R.frames ∧ 8 + (k + 11) + 40 * D' ≤ R.locals) (hret : RetK G A cX7_holdsRow 113 6344 ad0 p l e R s0 m args below meth c Q opsS ret r .ireturn okZ) : ∀ q ∈ tb_X7_holdsRow cal, OKi G A 2 113 6344 ad0 p l e R s0 m args below meth c Q opsS ret r q.1 q.2 :=
    okc (ok_aload_n (j := 0) X (by decide +kernel) rfl rfl) (
    okc (ok_iload_n (j := 1) X (by decide +kernel) rfl rfl) (
    okc (ok_callV (ci := 7) (C := RX7) (T := TX7) (N := 4) (Y := (yX7_has, cX7_has, 2, (some .boolean))) X hcal opsS_n md_X7_has rfl (by decide) rfl wc_X7_has wl_X7_32 wi_X7 wm_X7_has wv_X7_has (by decide +kernel) (hRm 2 (by decide)) (by decide +kernel) rfl) (
    okc (ok_ifeq (off := 16) X (by decide +kernel) (by decide) rfl) (
    okc (ok_aload_n (j := 0) X (by decide +kernel) rfl rfl) (
    okc (ok_getR (ci := 7) (kf := 0) (idx := 11) (C := RX7) (T := TX7) (N := 4) X rfl (by decide) inX7 (by decide) wf_X7_11 (fun _ _ _ => rfl) (by decide +kernel) rfl) (
    okc (ok_iload_n (j := 1) X (by decide +kernel) rfl rfl) (
    okc (ok_iald X (by decide +kernel) rfl) (
    okc (ok_iflt (off := 7) X (by decide +kernel) (by decide) rfl) (
    okc (ok_iconst (n := 1) X (by decide +kernel) rfl rfl) (
    okc (ok_goto (off := 4) X (by decide +kernel) (by decide)) (
    okc (ok_iconst (n := 0) X (by decide +kernel) rfl rfl) (
    okc (ok_zret hret (by decide +kernel)) (
    okn)))))))))))))
noncomputable def es_X7_holdsRow  : List (Nat × En) := [(47, en_X7_has)]
set_option maxRecDepth 100000 in
set_option maxHeartbeats 4000000 in
theorem eq_X7_holdsRow   (a0 : Int32) (s : SS) : ex (tb_X7_holdsRow (calE (es_X7_holdsRow))) rI [] (fun _ _ _ _ => none) 15 0 [some (.ref 58), some (.int a0)] [] s = f_X7_holdsRow a0 s := by
  rfl
set_option maxRecDepth 100000 in
set_option maxHeartbeats 4000000 in
theorem run_X7_holdsRow {l : Launch} {G : Gm}   (a0 : Int32) (s : SS) (q : (Int32 × SS)) (h : f_X7_holdsRow a0 s = some q) (D' : Nat) (hD : 1 ≤ D') : RunsM l G (D' + 1) (md 51) (embS s) [.ref 58, .int a0] (some (.int q.1)) (embS q.2) := by
  rw [md_X7_holdsRow]
  refine runs_Z (plainFor_of_name (by decide +kernel)) (Nat.le_of_ble_eq_true rfl) rfl ?_
  intro A p e R s0 m args below meth c Q ad0 hR X hret
  have X : Cx G A RX7 cX7_holdsRow 2 p s0 m args c := X
  have hT := tk_X7_holdsRow X (calE_ok (es := es_X7_holdsRow) (enc (en_X7_has_ok _ (by omega)) (enn))) (rmD rfl hR) hret
  rw [← eq_X7_holdsRow   a0 s] at h
  refine ex_good hT (fun pc' ls' st' x' hh => ?_) 15 0 _ [] s h
  cases hh

noncomputable def en_X7_holdsRow  : En := fun _ av s k => match av with
  | [.ref r0, .int a0] => (gd (Nat.beq r0 58) (bI (f_X7_holdsRow a0 s) k))
  | _ => none
set_option maxRecDepth 100000 in
set_option maxHeartbeats 4000000 in
theorem en_X7_holdsRow_ok {l : Launch} {G : Gm} (D : Nat) (hD : 2 ≤ D) : enOK l G D 51 en_X7_holdsRow := by
  intro ρ av x k r h
  unfold en_X7_holdsRow at h
  split at h
  · obtain ⟨g0, h⟩ := gd_some h
    obtain ⟨q, h1, h2⟩ := bind_of h
    have e0 := beq1 g0
    subst e0
    obtain ⟨D', rfl⟩ : ∃ D', D = D' + 1 := ⟨D - 1, by omega⟩
    exact ⟨_, _, h2, run_X7_holdsRow  _ _ _ h1 D' (by omega)⟩
  · cases h

/-! HatRank$Shelves holdAlike -/
noncomputable def tb_X7_holdAlike (cal : Cal SS) : List (Nat × Ins SS) := [(0, e_aload 0 1), (1, e_iload 1 2), (2, e_callV opsS cal 51 1 7 5), (5, e_ifeq 35 8), (8, e_aload 0 9), (9, e_iload 2 10), (10, e_callV opsS cal 51 1 7 13), (13, e_ifeq 35 16), (16, e_aload 0 17), (17, e_getR opsS 7 0 20), (20, e_iload 1 21), (21, e_ald opsS 100 22), (22, e_aload 0 23), (23, e_getR opsS 7 0 26), (26, e_iload 2 27), (27, e_ald opsS 100 28), (28, e_cne 35 31), (31, e_iconst (1) 32), (32, e_goto 36), (35, e_iconst (0) 36), (36, e_zret)]
set_option maxRecDepth 100000 in
set_option maxHeartbeats 4000000 in
theorem tk_X7_holdAlike {ad0 : Nat → Nat} {G : Gm} {A : Nat → Prop} {p : Program} {l : Launch} {e : Env} {R : Room} {s0 : State} {m : MethodId} {args : Array Value} {below : List Frame} {meth : Method} {c : Code} {Q : State → Prop} {ρ : Type} {ret : Option Value → SS → Option ρ} {r : ρ} (X : Cx G A RX7 cX7_holdAlike 3 p s0 m args c) {D' : Nat} {cal : Cal SS} (hcal : calOK l G opsS D' cal) (hRm : ∀ k, k ≤ 21 → D' + 1 ≤ R.frames ∧ 8 + (k + 11) + 40 * D' ≤ R.locals) (hret : RetK G A cX7_holdAlike 113 6344 ad0 p l e R s0 m args below meth c Q opsS ret r .ireturn okZ) : ∀ q ∈ tb_X7_holdAlike cal, OKi G A 3 113 6344 ad0 p l e R s0 m args below meth c Q opsS ret r q.1 q.2 :=
    okc (ok_aload_n (j := 0) X (by decide +kernel) rfl rfl) (
    okc (ok_iload_n (j := 1) X (by decide +kernel) rfl rfl) (
    okc (ok_callV (ci := 7) (C := RX7) (T := TX7) (N := 4) (Y := (yX7_holdsRow, cX7_holdsRow, 2, (some .boolean))) X hcal opsS_n md_X7_holdsRow rfl (by decide) rfl wc_X7_holdsRow wl_X7_36 wi_X7 wm_X7_holdsRow wv_X7_holdsRow (by decide +kernel) (hRm 2 (by decide)) (by decide +kernel) rfl) (
    okc (ok_ifeq (off := 30) X (by decide +kernel) (by decide) rfl) (
    okc (ok_aload_n (j := 0) X (by decide +kernel) rfl rfl) (
    okc (ok_iload_n (j := 2) X (by decide +kernel) rfl rfl) (
    okc (ok_callV (ci := 7) (C := RX7) (T := TX7) (N := 4) (Y := (yX7_holdsRow, cX7_holdsRow, 2, (some .boolean))) X hcal opsS_n md_X7_holdsRow rfl (by decide) rfl wc_X7_holdsRow wl_X7_36 wi_X7 wm_X7_holdsRow wv_X7_holdsRow (by decide +kernel) (hRm 2 (by decide)) (by decide +kernel) rfl) (
    okc (ok_ifeq (off := 22) X (by decide +kernel) (by decide) rfl) (
    okc (ok_aload_n (j := 0) X (by decide +kernel) rfl rfl) (
    okc (ok_getR (ci := 7) (kf := 0) (idx := 11) (C := RX7) (T := TX7) (N := 4) X rfl (by decide) inX7 (by decide) wf_X7_11 (fun _ _ _ => rfl) (by decide +kernel) rfl) (
    okc (ok_iload_n (j := 1) X (by decide +kernel) rfl rfl) (
    okc (ok_iald X (by decide +kernel) rfl) (
    okc (ok_aload_n (j := 0) X (by decide +kernel) rfl rfl) (
    okc (ok_getR (ci := 7) (kf := 0) (idx := 11) (C := RX7) (T := TX7) (N := 4) X rfl (by decide) inX7 (by decide) wf_X7_11 (fun _ _ _ => rfl) (by decide +kernel) rfl) (
    okc (ok_iload_n (j := 2) X (by decide +kernel) rfl rfl) (
    okc (ok_iald X (by decide +kernel) rfl) (
    okc (ok_cne (off := 7) X (by decide +kernel) (by decide) rfl) (
    okc (ok_iconst (n := 1) X (by decide +kernel) rfl rfl) (
    okc (ok_goto (off := 4) X (by decide +kernel) (by decide)) (
    okc (ok_iconst (n := 0) X (by decide +kernel) rfl rfl) (
    okc (ok_zret hret (by decide +kernel)) (
    okn)))))))))))))))))))))
noncomputable def es_X7_holdAlike  : List (Nat × En) := [(51, en_X7_holdsRow)]
set_option maxRecDepth 100000 in
set_option maxHeartbeats 4000000 in
theorem eq_X7_holdAlike   (a0 : Int32) (a1 : Int32) (s : SS) : ex (tb_X7_holdAlike (calE (es_X7_holdAlike))) rI [] (fun _ _ _ _ => none) 23 0 [some (.ref 58), some (.int a0), some (.int a1)] [] s = f_X7_holdAlike a0 a1 s := by
  rfl
set_option maxRecDepth 100000 in
set_option maxHeartbeats 4000000 in
theorem run_X7_holdAlike {l : Launch} {G : Gm}   (a0 : Int32) (a1 : Int32) (s : SS) (q : (Int32 × SS)) (h : f_X7_holdAlike a0 a1 s = some q) (D' : Nat) (hD : 2 ≤ D') : RunsM l G (D' + 1) (md 50) (embS s) [.ref 58, .int a0, .int a1] (some (.int q.1)) (embS q.2) := by
  rw [md_X7_holdAlike]
  refine runs_Z (plainFor_of_name (by decide +kernel)) (Nat.le_of_ble_eq_true rfl) rfl ?_
  intro A p e R s0 m args below meth c Q ad0 hR X hret
  have X : Cx G A RX7 cX7_holdAlike 3 p s0 m args c := X
  have hT := tk_X7_holdAlike X (calE_ok (es := es_X7_holdAlike) (enc (en_X7_holdsRow_ok _ (by omega)) (enn))) (rmD rfl hR) hret
  rw [← eq_X7_holdAlike   a0 a1 s] at h
  refine ex_good hT (fun pc' ls' st' x' hh => ?_) 23 0 _ [] s h
  cases hh

noncomputable def en_X7_holdAlike  : En := fun _ av s k => match av with
  | [.ref r0, .int a0, .int a1] => (gd (Nat.beq r0 58) (bI (f_X7_holdAlike a0 a1 s) k))
  | _ => none
set_option maxRecDepth 100000 in
set_option maxHeartbeats 4000000 in
theorem en_X7_holdAlike_ok {l : Launch} {G : Gm} (D : Nat) (hD : 3 ≤ D) : enOK l G D 50 en_X7_holdAlike := by
  intro ρ av x k r h
  unfold en_X7_holdAlike at h
  split at h
  · obtain ⟨g0, h⟩ := gd_some h
    obtain ⟨q, h1, h2⟩ := bind_of h
    have e0 := beq1 g0
    subst e0
    obtain ⟨D', rfl⟩ : ∃ D', D = D' + 1 := ⟨D - 1, by omega⟩
    exact ⟨_, _, h2, run_X7_holdAlike  _ _ _ _ h1 D' (by omega)⟩
  · cases h

/-! HatRank$Shelves lengthOf -/
noncomputable def tb_X7_lengthOf (cal : Cal SS) : List (Nat × Ins SS) := [(0, e_aload 0 1), (1, e_iload 1 2), (2, e_callV opsS cal 51 1 7 5), (5, e_ifeq 17 8), (8, e_aload 0 9), (9, e_getR opsS 7 2 12), (12, e_iload 1 13), (13, e_ald opsS 100 14), (14, e_goto 18), (17, e_iconst (0) 18), (18, e_iret)]
set_option maxRecDepth 100000 in
set_option maxHeartbeats 4000000 in
theorem tk_X7_lengthOf {ad0 : Nat → Nat} {G : Gm} {A : Nat → Prop} {p : Program} {l : Launch} {e : Env} {R : Room} {s0 : State} {m : MethodId} {args : Array Value} {below : List Frame} {meth : Method} {c : Code} {Q : State → Prop} {ρ : Type} {ret : Option Value → SS → Option ρ} {r : ρ} (X : Cx G A RX7 cX7_lengthOf 2 p s0 m args c) {D' : Nat} {cal : Cal SS} (hcal : calOK l G opsS D' cal) (hRm : ∀ k, k ≤ 21 → D' + 1 ≤ R.frames ∧ 8 + (k + 11) + 40 * D' ≤ R.locals) (hret : RetK G A cX7_lengthOf 113 6344 ad0 p l e R s0 m args below meth c Q opsS ret r .ireturn okI) : ∀ q ∈ tb_X7_lengthOf cal, OKi G A 2 113 6344 ad0 p l e R s0 m args below meth c Q opsS ret r q.1 q.2 :=
    okc (ok_aload_n (j := 0) X (by decide +kernel) rfl rfl) (
    okc (ok_iload_n (j := 1) X (by decide +kernel) rfl rfl) (
    okc (ok_callV (ci := 7) (C := RX7) (T := TX7) (N := 4) (Y := (yX7_holdsRow, cX7_holdsRow, 2, (some .boolean))) X hcal opsS_n md_X7_holdsRow rfl (by decide) rfl wc_X7_holdsRow wl_X7_36 wi_X7 wm_X7_holdsRow wv_X7_holdsRow (by decide +kernel) (hRm 2 (by decide)) (by decide +kernel) rfl) (
    okc (ok_ifeq (off := 12) X (by decide +kernel) (by decide) rfl) (
    okc (ok_aload_n (j := 0) X (by decide +kernel) rfl rfl) (
    okc (ok_getR (ci := 7) (kf := 2) (idx := 18) (C := RX7) (T := TX7) (N := 4) X rfl (by decide) inX7 (by decide) wf_X7_18 (fun _ _ _ => rfl) (by decide +kernel) rfl) (
    okc (ok_iload_n (j := 1) X (by decide +kernel) rfl rfl) (
    okc (ok_iald X (by decide +kernel) rfl) (
    okc (ok_goto (off := 4) X (by decide +kernel) (by decide)) (
    okc (ok_iconst (n := 0) X (by decide +kernel) rfl rfl) (
    okc (ok_iret hret (by decide +kernel)) (
    okn)))))))))))
noncomputable def es_X7_lengthOf  : List (Nat × En) := [(51, en_X7_holdsRow)]
set_option maxRecDepth 100000 in
set_option maxHeartbeats 4000000 in
theorem eq_X7_lengthOf   (a0 : Int32) (s : SS) : ex (tb_X7_lengthOf (calE (es_X7_lengthOf))) rI [] (fun _ _ _ _ => none) 13 0 [some (.ref 58), some (.int a0)] [] s = f_X7_lengthOf a0 s := by
  rfl
set_option maxRecDepth 100000 in
set_option maxHeartbeats 4000000 in
theorem run_X7_lengthOf {l : Launch} {G : Gm}   (a0 : Int32) (s : SS) (q : (Int32 × SS)) (h : f_X7_lengthOf a0 s = some q) (D' : Nat) (hD : 2 ≤ D') : RunsM l G (D' + 1) (md 52) (embS s) [.ref 58, .int a0] (some (.int q.1)) (embS q.2) := by
  rw [md_X7_lengthOf]
  refine runs_I (plainFor_of_name (by decide +kernel)) (Nat.le_of_ble_eq_true rfl) rfl ?_
  intro A p e R s0 m args below meth c Q ad0 hR X hret
  have X : Cx G A RX7 cX7_lengthOf 2 p s0 m args c := X
  have hT := tk_X7_lengthOf X (calE_ok (es := es_X7_lengthOf) (enc (en_X7_holdsRow_ok _ (by omega)) (enn))) (rmD rfl hR) hret
  rw [← eq_X7_lengthOf   a0 s] at h
  refine ex_good hT (fun pc' ls' st' x' hh => ?_) 13 0 _ [] s h
  cases hh

noncomputable def en_X7_lengthOf  : En := fun _ av s k => match av with
  | [.ref r0, .int a0] => (gd (Nat.beq r0 58) (bI (f_X7_lengthOf a0 s) k))
  | _ => none
set_option maxRecDepth 100000 in
set_option maxHeartbeats 4000000 in
theorem en_X7_lengthOf_ok {l : Launch} {G : Gm} (D : Nat) (hD : 3 ≤ D) : enOK l G D 52 en_X7_lengthOf := by
  intro ρ av x k r h
  unfold en_X7_lengthOf at h
  split at h
  · obtain ⟨g0, h⟩ := gd_some h
    obtain ⟨q, h1, h2⟩ := bind_of h
    have e0 := beq1 g0
    subst e0
    obtain ⟨D', rfl⟩ : ∃ D', D = D' + 1 := ⟨D - 1, by omega⟩
    exact ⟨_, _, h2, run_X7_lengthOf  _ _ _ h1 D' (by omega)⟩
  · cases h

/-! HatRank$Shelves bodyOn -/
noncomputable def tb_X7_bodyOn (cal : Cal SS) : List (Nat × Ins SS) := [(0, e_aload 0 1), (1, e_iload 1 2), (2, e_callV opsS cal 47 1 7 5), (5, e_ifeq 28 8), (8, e_aload 0 9), (9, e_getR opsS 7 0 12), (12, e_iload 1 13), (13, e_ald opsS 100 14), (14, e_iconst (-2) 16), (16, e_cne 28 19), (19, e_aload 0 20), (20, e_getR opsS 7 1 23), (23, e_iload 1 24), (24, e_ald opsS 100 25), (25, e_goto 29), (28, e_iconst (-1) 29), (29, e_iret)]
set_option maxRecDepth 100000 in
set_option maxHeartbeats 4000000 in
theorem tk_X7_bodyOn {ad0 : Nat → Nat} {G : Gm} {A : Nat → Prop} {p : Program} {l : Launch} {e : Env} {R : Room} {s0 : State} {m : MethodId} {args : Array Value} {below : List Frame} {meth : Method} {c : Code} {Q : State → Prop} {ρ : Type} {ret : Option Value → SS → Option ρ} {r : ρ} (X : Cx G A RX7 cX7_bodyOn 2 p s0 m args c) {D' : Nat} {cal : Cal SS} (hcal : calOK l G opsS D' cal) (hRm : ∀ k, k ≤ 21 → D' + 1 ≤ R.frames ∧ 8 + (k + 11) + 40 * D' ≤ R.locals) (hret : RetK G A cX7_bodyOn 113 6344 ad0 p l e R s0 m args below meth c Q opsS ret r .ireturn okI) : ∀ q ∈ tb_X7_bodyOn cal, OKi G A 2 113 6344 ad0 p l e R s0 m args below meth c Q opsS ret r q.1 q.2 :=
    okc (ok_aload_n (j := 0) X (by decide +kernel) rfl rfl) (
    okc (ok_iload_n (j := 1) X (by decide +kernel) rfl rfl) (
    okc (ok_callV (ci := 7) (C := RX7) (T := TX7) (N := 4) (Y := (yX7_has, cX7_has, 2, (some .boolean))) X hcal opsS_n md_X7_has rfl (by decide) rfl wc_X7_has wl_X7_32 wi_X7 wm_X7_has wv_X7_has (by decide +kernel) (hRm 2 (by decide)) (by decide +kernel) rfl) (
    okc (ok_ifeq (off := 23) X (by decide +kernel) (by decide) rfl) (
    okc (ok_aload_n (j := 0) X (by decide +kernel) rfl rfl) (
    okc (ok_getR (ci := 7) (kf := 0) (idx := 11) (C := RX7) (T := TX7) (N := 4) X rfl (by decide) inX7 (by decide) wf_X7_11 (fun _ _ _ => rfl) (by decide +kernel) rfl) (
    okc (ok_iload_n (j := 1) X (by decide +kernel) rfl rfl) (
    okc (ok_iald X (by decide +kernel) rfl) (
    okc (ok_bipush (n := -2) X (by decide +kernel) rfl rfl) (
    okc (ok_cne (off := 12) X (by decide +kernel) (by decide) rfl) (
    okc (ok_aload_n (j := 0) X (by decide +kernel) rfl rfl) (
    okc (ok_getR (ci := 7) (kf := 1) (idx := 15) (C := RX7) (T := TX7) (N := 4) X rfl (by decide) inX7 (by decide) wf_X7_15 (fun _ _ _ => rfl) (by decide +kernel) rfl) (
    okc (ok_iload_n (j := 1) X (by decide +kernel) rfl rfl) (
    okc (ok_iald X (by decide +kernel) rfl) (
    okc (ok_goto (off := 4) X (by decide +kernel) (by decide)) (
    okc (ok_iconst (n := -1) X (by decide +kernel) rfl rfl) (
    okc (ok_iret hret (by decide +kernel)) (
    okn)))))))))))))))))
noncomputable def es_X7_bodyOn  : List (Nat × En) := [(47, en_X7_has)]
set_option maxRecDepth 100000 in
set_option maxHeartbeats 4000000 in
theorem eq_X7_bodyOn   (a0 : Int32) (s : SS) : ex (tb_X7_bodyOn (calE (es_X7_bodyOn))) rI [] (fun _ _ _ _ => none) 19 0 [some (.ref 58), some (.int a0)] [] s = f_X7_bodyOn a0 s := by
  rfl
set_option maxRecDepth 100000 in
set_option maxHeartbeats 4000000 in
theorem run_X7_bodyOn {l : Launch} {G : Gm}   (a0 : Int32) (s : SS) (q : (Int32 × SS)) (h : f_X7_bodyOn a0 s = some q) (D' : Nat) (hD : 1 ≤ D') : RunsM l G (D' + 1) (md 53) (embS s) [.ref 58, .int a0] (some (.int q.1)) (embS q.2) := by
  rw [md_X7_bodyOn]
  refine runs_I (plainFor_of_name (by decide +kernel)) (Nat.le_of_ble_eq_true rfl) rfl ?_
  intro A p e R s0 m args below meth c Q ad0 hR X hret
  have X : Cx G A RX7 cX7_bodyOn 2 p s0 m args c := X
  have hT := tk_X7_bodyOn X (calE_ok (es := es_X7_bodyOn) (enc (en_X7_has_ok _ (by omega)) (enn))) (rmD rfl hR) hret
  rw [← eq_X7_bodyOn   a0 s] at h
  refine ex_good hT (fun pc' ls' st' x' hh => ?_) 19 0 _ [] s h
  cases hh

noncomputable def en_X7_bodyOn  : En := fun _ av s k => match av with
  | [.ref r0, .int a0] => (gd (Nat.beq r0 58) (bI (f_X7_bodyOn a0 s) k))
  | _ => none
set_option maxRecDepth 100000 in
set_option maxHeartbeats 4000000 in
theorem en_X7_bodyOn_ok {l : Launch} {G : Gm} (D : Nat) (hD : 2 ≤ D) : enOK l G D 53 en_X7_bodyOn := by
  intro ρ av x k r h
  unfold en_X7_bodyOn at h
  split at h
  · obtain ⟨g0, h⟩ := gd_some h
    obtain ⟨q, h1, h2⟩ := bind_of h
    have e0 := beq1 g0
    subst e0
    obtain ⟨D', rfl⟩ : ∃ D', D = D' + 1 := ⟨D - 1, by omega⟩
    exact ⟨_, _, h2, run_X7_bodyOn  _ _ _ h1 D' (by omega)⟩
  · cases h

/-! HatRank$Shelves clear -/
noncomputable def tb_X7_clear (cal : Cal SS) : List (Nat × Ins SS) := [(0, e_aload 0 1), (1, e_iload 1 2), (2, e_callV opsS cal 47 1 7 5), (5, e_ifeq 15 8), (8, e_aload 0 9), (9, e_getR opsS 7 0 12), (12, e_iload 1 13), (13, e_iconst (-1) 14), (14, e_ast opsS 100 (fun v => v) 15), (15, e_vret)]
set_option maxRecDepth 100000 in
set_option maxHeartbeats 4000000 in
theorem tk_X7_clear {ad0 : Nat → Nat} {G : Gm} {A : Nat → Prop} {p : Program} {l : Launch} {e : Env} {R : Room} {s0 : State} {m : MethodId} {args : Array Value} {below : List Frame} {meth : Method} {c : Code} {Q : State → Prop} {ρ : Type} {ret : Option Value → SS → Option ρ} {r : ρ} (X : Cx G A RX7 cX7_clear 2 p s0 m args c) {D' : Nat} {cal : Cal SS} (hcal : calOK l G opsS D' cal) (hRm : ∀ k, k ≤ 21 → D' + 1 ≤ R.frames ∧ 8 + (k + 11) + 40 * D' ≤ R.locals) (hret : RetK G A cX7_clear 113 6344 ad0 p l e R s0 m args below meth c Q opsS ret r .return_ okV) : ∀ q ∈ tb_X7_clear cal, OKi G A 2 113 6344 ad0 p l e R s0 m args below meth c Q opsS ret r q.1 q.2 :=
    okc (ok_aload_n (j := 0) X (by decide +kernel) rfl rfl) (
    okc (ok_iload_n (j := 1) X (by decide +kernel) rfl rfl) (
    okc (ok_callV (ci := 7) (C := RX7) (T := TX7) (N := 4) (Y := (yX7_has, cX7_has, 2, (some .boolean))) X hcal opsS_n md_X7_has rfl (by decide) rfl wc_X7_has wl_X7_32 wi_X7 wm_X7_has wv_X7_has (by decide +kernel) (hRm 2 (by decide)) (by decide +kernel) rfl) (
    okc (ok_ifeq (off := 10) X (by decide +kernel) (by decide) rfl) (
    okc (ok_aload_n (j := 0) X (by decide +kernel) rfl rfl) (
    okc (ok_getR (ci := 7) (kf := 0) (idx := 11) (C := RX7) (T := TX7) (N := 4) X rfl (by decide) inX7 (by decide) wf_X7_11 (fun _ _ _ => rfl) (by decide +kernel) rfl) (
    okc (ok_iload_n (j := 1) X (by decide +kernel) rfl rfl) (
    okc (ok_iconst (n := -1) X (by decide +kernel) rfl rfl) (
    okc (ok_iast X opsS_ok (by decide +kernel) rfl) (
    okc (ok_vret hret (by decide +kernel)) (
    okn))))))))))
noncomputable def es_X7_clear  : List (Nat × En) := [(47, en_X7_has)]
set_option maxRecDepth 100000 in
set_option maxHeartbeats 4000000 in
theorem eq_X7_clear   (a0 : Int32) (s : SS) : ex (tb_X7_clear (calE (es_X7_clear))) rV [] (fun _ _ _ _ => none) 12 0 [some (.ref 58), some (.int a0)] [] s = f_X7_clear a0 s := by
  rfl
set_option maxRecDepth 100000 in
set_option maxHeartbeats 4000000 in
theorem run_X7_clear {l : Launch} {G : Gm}   (a0 : Int32) (s : SS) (q : SS) (h : f_X7_clear a0 s = some q) (D' : Nat) (hD : 1 ≤ D') : RunsM l G (D' + 1) (md 54) (embS s) [.ref 58, .int a0] none (embS q) := by
  rw [md_X7_clear]
  refine runs_V (plainFor_of_name (by decide +kernel)) (Nat.le_of_ble_eq_true rfl) rfl ?_
  intro A p e R s0 m args below meth c Q ad0 hR X hret
  have X : Cx G A RX7 cX7_clear 2 p s0 m args c := X
  have hT := tk_X7_clear X (calE_ok (es := es_X7_clear) (enc (en_X7_has_ok _ (by omega)) (enn))) (rmD rfl hR) hret
  rw [← eq_X7_clear   a0 s] at h
  refine ex_good hT (fun pc' ls' st' x' hh => ?_) 12 0 _ [] s h
  cases hh

noncomputable def en_X7_clear  : En := fun _ av s k => match av with
  | [.ref r0, .int a0] => (gd (Nat.beq r0 58) (bV (f_X7_clear a0 s) k))
  | _ => none
set_option maxRecDepth 100000 in
set_option maxHeartbeats 4000000 in
theorem en_X7_clear_ok {l : Launch} {G : Gm} (D : Nat) (hD : 2 ≤ D) : enOK l G D 54 en_X7_clear := by
  intro ρ av x k r h
  unfold en_X7_clear at h
  split at h
  · obtain ⟨g0, h⟩ := gd_some h
    obtain ⟨q, h1, h2⟩ := bind_of h
    have e0 := beq1 g0
    subst e0
    obtain ⟨D', rfl⟩ : ∃ D', D = D' + 1 := ⟨D - 1, by omega⟩
    exact ⟨_, _, h2, run_X7_clear  _ _ _ h1 D' (by omega)⟩
  · cases h

/-! HatRank$Shelves holdBody -/
noncomputable def tb_X7_holdBody (cal : Cal SS) : List (Nat × Ins SS) := [(0, e_aload 0 1), (1, e_iload 1 2), (2, e_callV opsS cal 47 1 7 5), (5, e_ifeq 23 8), (8, e_aload 0 9), (9, e_getR opsS 7 0 12), (12, e_iload 1 13), (13, e_iconst (-2) 15), (15, e_ast opsS 100 (fun v => v) 16), (16, e_aload 0 17), (17, e_getR opsS 7 1 20), (20, e_iload 1 21), (21, e_iload 2 22), (22, e_ast opsS 100 (fun v => v) 23), (23, e_vret)]
set_option maxRecDepth 100000 in
set_option maxHeartbeats 4000000 in
theorem tk_X7_holdBody {ad0 : Nat → Nat} {G : Gm} {A : Nat → Prop} {p : Program} {l : Launch} {e : Env} {R : Room} {s0 : State} {m : MethodId} {args : Array Value} {below : List Frame} {meth : Method} {c : Code} {Q : State → Prop} {ρ : Type} {ret : Option Value → SS → Option ρ} {r : ρ} (X : Cx G A RX7 cX7_holdBody 3 p s0 m args c) {D' : Nat} {cal : Cal SS} (hcal : calOK l G opsS D' cal) (hRm : ∀ k, k ≤ 21 → D' + 1 ≤ R.frames ∧ 8 + (k + 11) + 40 * D' ≤ R.locals) (hret : RetK G A cX7_holdBody 113 6344 ad0 p l e R s0 m args below meth c Q opsS ret r .return_ okV) : ∀ q ∈ tb_X7_holdBody cal, OKi G A 3 113 6344 ad0 p l e R s0 m args below meth c Q opsS ret r q.1 q.2 :=
    okc (ok_aload_n (j := 0) X (by decide +kernel) rfl rfl) (
    okc (ok_iload_n (j := 1) X (by decide +kernel) rfl rfl) (
    okc (ok_callV (ci := 7) (C := RX7) (T := TX7) (N := 4) (Y := (yX7_has, cX7_has, 2, (some .boolean))) X hcal opsS_n md_X7_has rfl (by decide) rfl wc_X7_has wl_X7_32 wi_X7 wm_X7_has wv_X7_has (by decide +kernel) (hRm 2 (by decide)) (by decide +kernel) rfl) (
    okc (ok_ifeq (off := 18) X (by decide +kernel) (by decide) rfl) (
    okc (ok_aload_n (j := 0) X (by decide +kernel) rfl rfl) (
    okc (ok_getR (ci := 7) (kf := 0) (idx := 11) (C := RX7) (T := TX7) (N := 4) X rfl (by decide) inX7 (by decide) wf_X7_11 (fun _ _ _ => rfl) (by decide +kernel) rfl) (
    okc (ok_iload_n (j := 1) X (by decide +kernel) rfl rfl) (
    okc (ok_bipush (n := -2) X (by decide +kernel) rfl rfl) (
    okc (ok_iast X opsS_ok (by decide +kernel) rfl) (
    okc (ok_aload_n (j := 0) X (by decide +kernel) rfl rfl) (
    okc (ok_getR (ci := 7) (kf := 1) (idx := 15) (C := RX7) (T := TX7) (N := 4) X rfl (by decide) inX7 (by decide) wf_X7_15 (fun _ _ _ => rfl) (by decide +kernel) rfl) (
    okc (ok_iload_n (j := 1) X (by decide +kernel) rfl rfl) (
    okc (ok_iload_n (j := 2) X (by decide +kernel) rfl rfl) (
    okc (ok_iast X opsS_ok (by decide +kernel) rfl) (
    okc (ok_vret hret (by decide +kernel)) (
    okn)))))))))))))))
noncomputable def es_X7_holdBody  : List (Nat × En) := [(47, en_X7_has)]
set_option maxRecDepth 100000 in
set_option maxHeartbeats 4000000 in
theorem eq_X7_holdBody   (a0 : Int32) (a1 : Int32) (s : SS) : ex (tb_X7_holdBody (calE (es_X7_holdBody))) rV [] (fun _ _ _ _ => none) 17 0 [some (.ref 58), some (.int a0), some (.int a1)] [] s = f_X7_holdBody a0 a1 s := by
  rfl
set_option maxRecDepth 100000 in
set_option maxHeartbeats 4000000 in
theorem run_X7_holdBody {l : Launch} {G : Gm}   (a0 : Int32) (a1 : Int32) (s : SS) (q : SS) (h : f_X7_holdBody a0 a1 s = some q) (D' : Nat) (hD : 1 ≤ D') : RunsM l G (D' + 1) (md 55) (embS s) [.ref 58, .int a0, .int a1] none (embS q) := by
  rw [md_X7_holdBody]
  refine runs_V (plainFor_of_name (by decide +kernel)) (Nat.le_of_ble_eq_true rfl) rfl ?_
  intro A p e R s0 m args below meth c Q ad0 hR X hret
  have X : Cx G A RX7 cX7_holdBody 3 p s0 m args c := X
  have hT := tk_X7_holdBody X (calE_ok (es := es_X7_holdBody) (enc (en_X7_has_ok _ (by omega)) (enn))) (rmD rfl hR) hret
  rw [← eq_X7_holdBody   a0 a1 s] at h
  refine ex_good hT (fun pc' ls' st' x' hh => ?_) 17 0 _ [] s h
  cases hh

noncomputable def en_X7_holdBody  : En := fun _ av s k => match av with
  | [.ref r0, .int a0, .int a1] => (gd (Nat.beq r0 58) (bV (f_X7_holdBody a0 a1 s) k))
  | _ => none
set_option maxRecDepth 100000 in
set_option maxHeartbeats 4000000 in
theorem en_X7_holdBody_ok {l : Launch} {G : Gm} (D : Nat) (hD : 2 ≤ D) : enOK l G D 55 en_X7_holdBody := by
  intro ρ av x k r h
  unfold en_X7_holdBody at h
  split at h
  · obtain ⟨g0, h⟩ := gd_some h
    obtain ⟨q, h1, h2⟩ := bind_of h
    have e0 := beq1 g0
    subst e0
    obtain ⟨D', rfl⟩ : ∃ D', D = D' + 1 := ⟨D - 1, by omega⟩
    exact ⟨_, _, h2, run_X7_holdBody  _ _ _ _ h1 D' (by omega)⟩
  · cases h

/-! HatRank$Shelves holdRow -/
noncomputable def tb_X7_holdRow (cal : Cal SS) : List (Nat × Ins SS) := [(0, e_aload 0 1), (1, e_iload 1 2), (2, e_callV opsS cal 47 1 7 5), (5, e_ifeq 42 8), (8, e_iload 3 9), (9, e_iflt 42 12), (12, e_iload 3 13), (13, e_iconst (60) 15), (15, e_cgt 42 18), (18, e_aload 0 19), (19, e_getR opsS 7 0 22), (22, e_iload 1 23), (23, e_iload 2 24), (24, e_ast opsS 100 (fun v => v) 25), (25, e_aload 0 26), (26, e_getR opsS 7 2 29), (29, e_iload 1 30), (30, e_iload 3 31), (31, e_ast opsS 100 (fun v => v) 32), (32, e_aload 0 33), (33, e_getR opsS 7 3 36), (36, e_iload 1 37), (37, e_aaldS 62 63 1 6 38), (38, e_lconst (0) 39), (39, e_callS cal 265 2 42), (42, e_vret)]
set_option maxRecDepth 100000 in
set_option maxHeartbeats 4000000 in
theorem tk_X7_holdRow {ad0 : Nat → Nat} {G : Gm} {A : Nat → Prop} {p : Program} {l : Launch} {e : Env} {R : Room} {s0 : State} {m : MethodId} {args : Array Value} {below : List Frame} {meth : Method} {c : Code} {Q : State → Prop} {ρ : Type} {ret : Option Value → SS → Option ρ} {r : ρ} (X : Cx G A RX7 cX7_holdRow 4 p s0 m args c) {D' : Nat} {cal : Cal SS} (hcal : calOK l G opsS D' cal) (hRm : ∀ k, k ≤ 21 → D' + 1 ≤ R.frames ∧ 8 + (k + 11) + 40 * D' ≤ R.locals) (hret : RetK G A cX7_holdRow 113 6344 ad0 p l e R s0 m args below meth c Q opsS ret r .return_ okV) : ∀ q ∈ tb_X7_holdRow cal, OKi G A 4 113 6344 ad0 p l e R s0 m args below meth c Q opsS ret r q.1 q.2 :=
    okc (ok_aload_n (j := 0) X (by decide +kernel) rfl rfl) (
    okc (ok_iload_n (j := 1) X (by decide +kernel) rfl rfl) (
    okc (ok_callV (ci := 7) (C := RX7) (T := TX7) (N := 4) (Y := (yX7_has, cX7_has, 2, (some .boolean))) X hcal opsS_n md_X7_has rfl (by decide) rfl wc_X7_has wl_X7_32 wi_X7 wm_X7_has wv_X7_has (by decide +kernel) (hRm 2 (by decide)) (by decide +kernel) rfl) (
    okc (ok_ifeq (off := 37) X (by decide +kernel) (by decide) rfl) (
    okc (ok_iload_n (j := 3) X (by decide +kernel) rfl rfl) (
    okc (ok_iflt (off := 33) X (by decide +kernel) (by decide) rfl) (
    okc (ok_iload_n (j := 3) X (by decide +kernel) rfl rfl) (
    okc (ok_bipush (n := 60) X (by decide +kernel) rfl rfl) (
    okc (ok_cgt (off := 27) X (by decide +kernel) (by decide) rfl) (
    okc (ok_aload_n (j := 0) X (by decide +kernel) rfl rfl) (
    okc (ok_getR (ci := 7) (kf := 0) (idx := 11) (C := RX7) (T := TX7) (N := 4) X rfl (by decide) inX7 (by decide) wf_X7_11 (fun _ _ _ => rfl) (by decide +kernel) rfl) (
    okc (ok_iload_n (j := 1) X (by decide +kernel) rfl rfl) (
    okc (ok_iload_n (j := 2) X (by decide +kernel) rfl rfl) (
    okc (ok_iast X opsS_ok (by decide +kernel) rfl) (
    okc (ok_aload_n (j := 0) X (by decide +kernel) rfl rfl) (
    okc (ok_getR (ci := 7) (kf := 2) (idx := 18) (C := RX7) (T := TX7) (N := 4) X rfl (by decide) inX7 (by decide) wf_X7_18 (fun _ _ _ => rfl) (by decide +kernel) rfl) (
    okc (ok_iload_n (j := 1) X (by decide +kernel) rfl rfl) (
    okc (ok_iload_n (j := 3) X (by decide +kernel) rfl rfl) (
    okc (ok_iast X opsS_ok (by decide +kernel) rfl) (
    okc (ok_aload_n (j := 0) X (by decide +kernel) rfl rfl) (
    okc (ok_getR (ci := 7) (kf := 3) (idx := 23) (C := RX7) (T := TX7) (N := 4) X rfl (by decide) inX7 (by decide) wf_X7_23 (fun _ _ _ => rfl) (by decide +kernel) rfl) (
    okc (ok_iload_n (j := 1) X (by decide +kernel) rfl rfl) (
    okc (ok_aaldE X (by decide +kernel) rfl) (
    okc (ok_lconst (n := 0) X (by decide +kernel) rfl rfl) (
    okc (ok_callS (Y := (yJ7_fill_d0a16, cJ7_fill_d0a16, 5, none)) X hcal opsS_n md_J7_fill_d0a16 wc_J7_fill_d0a16 wl_X7_39 wi_J7 ws_J7_fill_d0a16 (by decide +kernel) (hRm 5 (by decide)) (by decide +kernel) rfl) (
    okc (ok_vret hret (by decide +kernel)) (
    okn))))))))))))))))))))))))))
noncomputable def es_X7_holdRow  : List (Nat × En) := [(47, en_X7_has), (265, en_J7_fill_d0a16)]
set_option maxRecDepth 100000 in
set_option maxHeartbeats 4000000 in
theorem eq_X7_holdRow   (a0 : Int32) (a1 : Int32) (a2 : Int32) (s : SS) : ex (tb_X7_holdRow (calE (es_X7_holdRow))) rV [] (fun _ _ _ _ => none) 28 0 [some (.ref 58), some (.int a0), some (.int a1), some (.int a2)] [] s = f_X7_holdRow a0 a1 a2 s := by
  rfl
set_option maxRecDepth 100000 in
set_option maxHeartbeats 4000000 in
theorem run_X7_holdRow {l : Launch} {G : Gm}   (a0 : Int32) (a1 : Int32) (a2 : Int32) (s : SS) (q : SS) (h : f_X7_holdRow a0 a1 a2 s = some q) (D' : Nat) (hD : 1 ≤ D') : RunsM l G (D' + 1) (md 56) (embS s) [.ref 58, .int a0, .int a1, .int a2] none (embS q) := by
  rw [md_X7_holdRow]
  refine runs_V (plainFor_of_name (by decide +kernel)) (Nat.le_of_ble_eq_true rfl) rfl ?_
  intro A p e R s0 m args below meth c Q ad0 hR X hret
  have X : Cx G A RX7 cX7_holdRow 4 p s0 m args c := X
  have hT := tk_X7_holdRow X (calE_ok (es := es_X7_holdRow) (enc (en_X7_has_ok _ (by omega)) (enc (en_J7_fill_d0a16_ok _ (by omega)) (enn)))) (rmD rfl hR) hret
  rw [← eq_X7_holdRow   a0 a1 a2 s] at h
  refine ex_good hT (fun pc' ls' st' x' hh => ?_) 28 0 _ [] s h
  cases hh

noncomputable def en_X7_holdRow  : En := fun _ av s k => match av with
  | [.ref r0, .int a0, .int a1, .int a2] => (gd (Nat.beq r0 58) (bV (f_X7_holdRow a0 a1 a2 s) k))
  | _ => none
set_option maxRecDepth 100000 in
set_option maxHeartbeats 4000000 in
theorem en_X7_holdRow_ok {l : Launch} {G : Gm} (D : Nat) (hD : 2 ≤ D) : enOK l G D 56 en_X7_holdRow := by
  intro ρ av x k r h
  unfold en_X7_holdRow at h
  split at h
  · obtain ⟨g0, h⟩ := gd_some h
    obtain ⟨q, h1, h2⟩ := bind_of h
    have e0 := beq1 g0
    subst e0
    obtain ⟨D', rfl⟩ : ∃ D', D = D' + 1 := ⟨D - 1, by omega⟩
    exact ⟨_, _, h2, run_X7_holdRow  _ _ _ _ _ h1 D' (by omega)⟩
  · cases h

/-! HatRank$Shelves refusal -/
noncomputable def tb_X7_refusal (cal : Cal SS) : List (Nat × Ins SS) := [(0, e_aload 0 1), (1, e_iload 1 2), (2, e_callV opsS cal 47 1 7 5), (5, e_ifne 10 8), (8, e_iconst (-1) 9), (9, e_iret), (10, e_aload 0 11), (11, e_iload 1 12), (12, e_callV opsS cal 48 1 7 15), (15, e_ifeq 21 18), (18, e_iconst (-11) 20), (20, e_iret), (21, e_aload 0 22), (22, e_iload 1 23), (23, e_callV opsS cal 51 1 7 26), (26, e_ifne 32 29), (29, e_iconst (-12) 31), (31, e_iret), (32, e_iload 2 33), (33, e_iflt 50 36), (36, e_iload 2 37), (37, e_aload 0 38), (38, e_getR opsS 7 2 41), (41, e_iload 1 42), (42, e_ald opsS 100 43), (43, e_cge 50 46), (46, e_iconst (0) 47), (47, e_goto 52), (50, e_iconst (-13) 52), (52, e_iret)]
set_option maxRecDepth 100000 in
set_option maxHeartbeats 4000000 in
theorem tk_X7_refusal {ad0 : Nat → Nat} {G : Gm} {A : Nat → Prop} {p : Program} {l : Launch} {e : Env} {R : Room} {s0 : State} {m : MethodId} {args : Array Value} {below : List Frame} {meth : Method} {c : Code} {Q : State → Prop} {ρ : Type} {ret : Option Value → SS → Option ρ} {r : ρ} (X : Cx G A RX7 cX7_refusal 3 p s0 m args c) {D' : Nat} {cal : Cal SS} (hcal : calOK l G opsS D' cal) (hRm : ∀ k, k ≤ 21 → D' + 1 ≤ R.frames ∧ 8 + (k + 11) + 40 * D' ≤ R.locals) (hret : RetK G A cX7_refusal 113 6344 ad0 p l e R s0 m args below meth c Q opsS ret r .ireturn okI) : ∀ q ∈ tb_X7_refusal cal, OKi G A 3 113 6344 ad0 p l e R s0 m args below meth c Q opsS ret r q.1 q.2 :=
    okc (ok_aload_n (j := 0) X (by decide +kernel) rfl rfl) (
    okc (ok_iload_n (j := 1) X (by decide +kernel) rfl rfl) (
    okc (ok_callV (ci := 7) (C := RX7) (T := TX7) (N := 4) (Y := (yX7_has, cX7_has, 2, (some .boolean))) X hcal opsS_n md_X7_has rfl (by decide) rfl wc_X7_has wl_X7_32 wi_X7 wm_X7_has wv_X7_has (by decide +kernel) (hRm 2 (by decide)) (by decide +kernel) rfl) (
    okc (ok_ifne (off := 5) X (by decide +kernel) (by decide) rfl) (
    okc (ok_iconst (n := -1) X (by decide +kernel) rfl rfl) (
    okc (ok_iret hret (by decide +kernel)) (
    okc (ok_aload_n (j := 0) X (by decide +kernel) rfl rfl) (
    okc (ok_iload_n (j := 1) X (by decide +kernel) rfl rfl) (
    okc (ok_callV (ci := 7) (C := RX7) (T := TX7) (N := 4) (Y := (yX7_holdsNothing, cX7_holdsNothing, 2, (some .boolean))) X hcal opsS_n md_X7_holdsNothing rfl (by decide) rfl wc_X7_holdsNothing wl_X7_42 wi_X7 wm_X7_holdsNothing wv_X7_holdsNothing (by decide +kernel) (hRm 2 (by decide)) (by decide +kernel) rfl) (
    okc (ok_ifeq (off := 6) X (by decide +kernel) (by decide) rfl) (
    okc (ok_bipush (n := -11) X (by decide +kernel) rfl rfl) (
    okc (ok_iret hret (by decide +kernel)) (
    okc (ok_aload_n (j := 0) X (by decide +kernel) rfl rfl) (
    okc (ok_iload_n (j := 1) X (by decide +kernel) rfl rfl) (
    okc (ok_callV (ci := 7) (C := RX7) (T := TX7) (N := 4) (Y := (yX7_holdsRow, cX7_holdsRow, 2, (some .boolean))) X hcal opsS_n md_X7_holdsRow rfl (by decide) rfl wc_X7_holdsRow wl_X7_36 wi_X7 wm_X7_holdsRow wv_X7_holdsRow (by decide +kernel) (hRm 2 (by decide)) (by decide +kernel) rfl) (
    okc (ok_ifne (off := 6) X (by decide +kernel) (by decide) rfl) (
    okc (ok_bipush (n := -12) X (by decide +kernel) rfl rfl) (
    okc (ok_iret hret (by decide +kernel)) (
    okc (ok_iload_n (j := 2) X (by decide +kernel) rfl rfl) (
    okc (ok_iflt (off := 17) X (by decide +kernel) (by decide) rfl) (
    okc (ok_iload_n (j := 2) X (by decide +kernel) rfl rfl) (
    okc (ok_aload_n (j := 0) X (by decide +kernel) rfl rfl) (
    okc (ok_getR (ci := 7) (kf := 2) (idx := 18) (C := RX7) (T := TX7) (N := 4) X rfl (by decide) inX7 (by decide) wf_X7_18 (fun _ _ _ => rfl) (by decide +kernel) rfl) (
    okc (ok_iload_n (j := 1) X (by decide +kernel) rfl rfl) (
    okc (ok_iald X (by decide +kernel) rfl) (
    okc (ok_cge (off := 7) X (by decide +kernel) (by decide) rfl) (
    okc (ok_iconst (n := 0) X (by decide +kernel) rfl rfl) (
    okc (ok_goto (off := 5) X (by decide +kernel) (by decide)) (
    okc (ok_bipush (n := -13) X (by decide +kernel) rfl rfl) (
    okc (ok_iret hret (by decide +kernel)) (
    okn))))))))))))))))))))))))))))))
noncomputable def es_X7_refusal  : List (Nat × En) := [(47, en_X7_has), (48, en_X7_holdsNothing), (51, en_X7_holdsRow)]
set_option maxRecDepth 100000 in
set_option maxHeartbeats 4000000 in
theorem eq_X7_refusal   (a0 : Int32) (a1 : Int32) (s : SS) : ex (tb_X7_refusal (calE (es_X7_refusal))) rI [] (fun _ _ _ _ => none) 32 0 [some (.ref 58), some (.int a0), some (.int a1)] [] s = f_X7_refusal a0 a1 s := by
  rfl
set_option maxRecDepth 100000 in
set_option maxHeartbeats 4000000 in
theorem run_X7_refusal {l : Launch} {G : Gm}   (a0 : Int32) (a1 : Int32) (s : SS) (q : (Int32 × SS)) (h : f_X7_refusal a0 a1 s = some q) (D' : Nat) (hD : 2 ≤ D') : RunsM l G (D' + 1) (md 57) (embS s) [.ref 58, .int a0, .int a1] (some (.int q.1)) (embS q.2) := by
  rw [md_X7_refusal]
  refine runs_I (plainFor_of_name (by decide +kernel)) (Nat.le_of_ble_eq_true rfl) rfl ?_
  intro A p e R s0 m args below meth c Q ad0 hR X hret
  have X : Cx G A RX7 cX7_refusal 3 p s0 m args c := X
  have hT := tk_X7_refusal X (calE_ok (es := es_X7_refusal) (enc (en_X7_has_ok _ (by omega)) (enc (en_X7_holdsNothing_ok _ (by omega)) (enc (en_X7_holdsRow_ok _ (by omega)) (enn))))) (rmD rfl hR) hret
  rw [← eq_X7_refusal   a0 a1 s] at h
  refine ex_good hT (fun pc' ls' st' x' hh => ?_) 32 0 _ [] s h
  cases hh

noncomputable def en_X7_refusal  : En := fun _ av s k => match av with
  | [.ref r0, .int a0, .int a1] => (gd (Nat.beq r0 58) (bI (f_X7_refusal a0 a1 s) k))
  | _ => none
set_option maxRecDepth 100000 in
set_option maxHeartbeats 4000000 in
theorem en_X7_refusal_ok {l : Launch} {G : Gm} (D : Nat) (hD : 3 ≤ D) : enOK l G D 57 en_X7_refusal := by
  intro ρ av x k r h
  unfold en_X7_refusal at h
  split at h
  · obtain ⟨g0, h⟩ := gd_some h
    obtain ⟨q, h1, h2⟩ := bind_of h
    have e0 := beq1 g0
    subst e0
    obtain ⟨D', rfl⟩ : ∃ D', D = D' + 1 := ⟨D - 1, by omega⟩
    exact ⟨_, _, h2, run_X7_refusal  _ _ _ _ h1 D' (by omega)⟩
  · cases h

/-! HatRank$Shelves get -/
noncomputable def tb_X7_get (cal : Cal SS) : List (Nat × Ins SS) := [(0, e_aload 0 1), (1, e_iload 1 2), (2, e_iload 2 3), (3, e_callV opsS cal 57 2 7 6), (6, e_ifne 20 9), (9, e_aload 0 10), (10, e_getR opsS 7 3 13), (13, e_iload 1 14), (14, e_aaldS 62 63 1 6 15), (15, e_iload 2 16), (16, e_laldE 17), (17, e_goto 21), (20, e_lconst (0) 21), (21, e_lret)]
set_option maxRecDepth 100000 in
set_option maxHeartbeats 4000000 in
theorem tk_X7_get {ad0 : Nat → Nat} {G : Gm} {A : Nat → Prop} {p : Program} {l : Launch} {e : Env} {R : Room} {s0 : State} {m : MethodId} {args : Array Value} {below : List Frame} {meth : Method} {c : Code} {Q : State → Prop} {ρ : Type} {ret : Option Value → SS → Option ρ} {r : ρ} (X : Cx G A RX7 cX7_get 3 p s0 m args c) {D' : Nat} {cal : Cal SS} (hcal : calOK l G opsS D' cal) (hRm : ∀ k, k ≤ 21 → D' + 1 ≤ R.frames ∧ 8 + (k + 11) + 40 * D' ≤ R.locals) (hret : RetK G A cX7_get 113 6344 ad0 p l e R s0 m args below meth c Q opsS ret r .lreturn okL) : ∀ q ∈ tb_X7_get cal, OKi G A 3 113 6344 ad0 p l e R s0 m args below meth c Q opsS ret r q.1 q.2 :=
    okc (ok_aload_n (j := 0) X (by decide +kernel) rfl rfl) (
    okc (ok_iload_n (j := 1) X (by decide +kernel) rfl rfl) (
    okc (ok_iload_n (j := 2) X (by decide +kernel) rfl rfl) (
    okc (ok_callV (ci := 7) (C := RX7) (T := TX7) (N := 4) (Y := (yX7_refusal, cX7_refusal, 3, (some .int))) X hcal opsS_n md_X7_refusal rfl (by decide) rfl wc_X7_refusal wl_X7_45 wi_X7 wm_X7_refusal wv_X7_refusal (by decide +kernel) (hRm 3 (by decide)) (by decide +kernel) rfl) (
    okc (ok_ifne (off := 14) X (by decide +kernel) (by decide) rfl) (
    okc (ok_aload_n (j := 0) X (by decide +kernel) rfl rfl) (
    okc (ok_getR (ci := 7) (kf := 3) (idx := 23) (C := RX7) (T := TX7) (N := 4) X rfl (by decide) inX7 (by decide) wf_X7_23 (fun _ _ _ => rfl) (by decide +kernel) rfl) (
    okc (ok_iload_n (j := 1) X (by decide +kernel) rfl rfl) (
    okc (ok_aaldE X (by decide +kernel) rfl) (
    okc (ok_iload_n (j := 2) X (by decide +kernel) rfl rfl) (
    okc (ok_laldE X (by decide +kernel) rfl) (
    okc (ok_goto (off := 4) X (by decide +kernel) (by decide)) (
    okc (ok_lconst (n := 0) X (by decide +kernel) rfl rfl) (
    okc (ok_lret hret (by decide +kernel)) (
    okn))))))))))))))
noncomputable def es_X7_get  : List (Nat × En) := [(57, en_X7_refusal)]
set_option maxRecDepth 100000 in
set_option maxHeartbeats 4000000 in
theorem eq_X7_get   (a0 : Int32) (a1 : Int32) (s : SS) : ex (tb_X7_get (calE (es_X7_get))) rL [] (fun _ _ _ _ => none) 16 0 [some (.ref 58), some (.int a0), some (.int a1)] [] s = f_X7_get a0 a1 s := by
  rfl
set_option maxRecDepth 100000 in
set_option maxHeartbeats 4000000 in
theorem run_X7_get {l : Launch} {G : Gm}   (a0 : Int32) (a1 : Int32) (s : SS) (q : (Int64 × SS)) (h : f_X7_get a0 a1 s = some q) (D' : Nat) (hD : 3 ≤ D') : RunsM l G (D' + 1) (md 58) (embS s) [.ref 58, .int a0, .int a1] (some (.long q.1)) (embS q.2) := by
  rw [md_X7_get]
  refine runs_L (plainFor_of_name (by decide +kernel)) (Nat.le_of_ble_eq_true rfl) rfl ?_
  intro A p e R s0 m args below meth c Q ad0 hR X hret
  have X : Cx G A RX7 cX7_get 3 p s0 m args c := X
  have hT := tk_X7_get X (calE_ok (es := es_X7_get) (enc (en_X7_refusal_ok _ (by omega)) (enn))) (rmD rfl hR) hret
  rw [← eq_X7_get   a0 a1 s] at h
  refine ex_good hT (fun pc' ls' st' x' hh => ?_) 16 0 _ [] s h
  cases hh

noncomputable def en_X7_get  : En := fun _ av s k => match av with
  | [.ref r0, .int a0, .int a1] => (gd (Nat.beq r0 58) (bL (f_X7_get a0 a1 s) k))
  | _ => none
set_option maxRecDepth 100000 in
set_option maxHeartbeats 4000000 in
theorem en_X7_get_ok {l : Launch} {G : Gm} (D : Nat) (hD : 4 ≤ D) : enOK l G D 58 en_X7_get := by
  intro ρ av x k r h
  unfold en_X7_get at h
  split at h
  · obtain ⟨g0, h⟩ := gd_some h
    obtain ⟨q, h1, h2⟩ := bind_of h
    have e0 := beq1 g0
    subst e0
    obtain ⟨D', rfl⟩ : ∃ D', D = D' + 1 := ⟨D - 1, by omega⟩
    exact ⟨_, _, h2, run_X7_get  _ _ _ _ h1 D' (by omega)⟩
  · cases h

/-! HatRank$Shelves cut -/
noncomputable def tb_X7_cut (cal : Cal SS) : List (Nat × Ins SS) := [(0, e_iload 0 1), (1, e_sw [(0, 32), (1, 37), (2, 42), (3, 46)] 48), (32, e_lload 1 33), (33, e_l2i 34), (34, e_un aB 35), (35, e_i2l 36), (36, e_lret), (37, e_lload 1 38), (38, e_l2i 39), (39, e_un aS 40), (40, e_i2l 41), (41, e_lret), (42, e_lload 1 43), (43, e_l2i 44), (44, e_i2l 45), (45, e_lret), (46, e_lload 1 47), (47, e_lret), (48, e_lload 1 49), (49, e_lconst (0) 50), (50, e_lcmp 51), (51, e_ifeq 58 54), (54, e_lconst (1) 55), (55, e_goto 59), (58, e_lconst (0) 59), (59, e_lret)]
set_option maxRecDepth 100000 in
set_option maxHeartbeats 4000000 in
theorem tk_X7_cut {ad0 : Nat → Nat} {G : Gm} {A : Nat → Prop} {p : Program} {l : Launch} {e : Env} {R : Room} {s0 : State} {m : MethodId} {args : Array Value} {below : List Frame} {meth : Method} {c : Code} {Q : State → Prop} {ρ : Type} {ret : Option Value → SS → Option ρ} {r : ρ} (X : Cx G A RX7 cX7_cut 3 p s0 m args c) {D' : Nat} {cal : Cal SS} (hcal : calOK l G opsS D' cal) (hRm : ∀ k, k ≤ 21 → D' + 1 ≤ R.frames ∧ 8 + (k + 11) + 40 * D' ≤ R.locals) (hret : RetK G A cX7_cut 113 6344 ad0 p l e R s0 m args below meth c Q opsS ret r .lreturn okL) : ∀ q ∈ tb_X7_cut cal, OKi G A 3 113 6344 ad0 p l e R s0 m args below meth c Q opsS ret r q.1 q.2 :=
    okc (ok_iload_n (j := 0) X (by decide +kernel) rfl rfl) (
    okc (ok_tsw (dflt := 47) (lo := 0) (hi := 3) (offs := #[31, 36, 41, 45]) (len := 31) X (by decide +kernel) (tsw_out 1 47 0 3 #[31, 36, 41, 45] (by decide +kernel)) (tsw_in 1 47 0 3 #[31, 36, 41, 45] (by decide +kernel))) (
    okc (ok_lload_n (j := 1) X (by decide +kernel) rfl rfl) (
    okc (ok_l2i X (by decide +kernel) rfl) (
    okc (ok_i2b X (by decide +kernel) rfl) (
    okc (ok_i2l X (by decide +kernel) rfl) (
    okc (ok_lret hret (by decide +kernel)) (
    okc (ok_lload_n (j := 1) X (by decide +kernel) rfl rfl) (
    okc (ok_l2i X (by decide +kernel) rfl) (
    okc (ok_i2s X (by decide +kernel) rfl) (
    okc (ok_i2l X (by decide +kernel) rfl) (
    okc (ok_lret hret (by decide +kernel)) (
    okc (ok_lload_n (j := 1) X (by decide +kernel) rfl rfl) (
    okc (ok_l2i X (by decide +kernel) rfl) (
    okc (ok_i2l X (by decide +kernel) rfl) (
    okc (ok_lret hret (by decide +kernel)) (
    okc (ok_lload_n (j := 1) X (by decide +kernel) rfl rfl) (
    okc (ok_lret hret (by decide +kernel)) (
    okc (ok_lload_n (j := 1) X (by decide +kernel) rfl rfl) (
    okc (ok_lconst (n := 0) X (by decide +kernel) rfl rfl) (
    okc (ok_lcmp X (by decide +kernel) rfl) (
    okc (ok_ifeq (off := 7) X (by decide +kernel) (by decide) rfl) (
    okc (ok_lconst (n := 1) X (by decide +kernel) rfl rfl) (
    okc (ok_goto (off := 4) X (by decide +kernel) (by decide)) (
    okc (ok_lconst (n := 0) X (by decide +kernel) rfl rfl) (
    okc (ok_lret hret (by decide +kernel)) (
    okn))))))))))))))))))))))))))
noncomputable def es_X7_cut  : List (Nat × En) := []
set_option maxRecDepth 100000 in
set_option maxHeartbeats 4000000 in
theorem eq_X7_cut   (a0 : Int32) (a1 : Int64) (s : SS) : ex (tb_X7_cut (calE (es_X7_cut))) rL [] (fun _ _ _ _ => none) 28 0 [some (.int a0), some (.long a1), none] [] s = f_X7_cut a0 a1 s := by
  rfl
set_option maxRecDepth 100000 in
set_option maxHeartbeats 4000000 in
theorem run_X7_cut {l : Launch} {G : Gm}   (a0 : Int32) (a1 : Int64) (s : SS) (q : (Int64 × SS)) (h : f_X7_cut a0 a1 s = some q) (D' : Nat) (hD : 0 ≤ D') : RunsM l G (D' + 1) (md 60) (embS s) [.int a0, .long a1] (some (.long q.1)) (embS q.2) := by
  rw [md_X7_cut]
  refine runs_L (plainFor_of_name (by decide +kernel)) (Nat.le_of_ble_eq_true rfl) rfl ?_
  intro A p e R s0 m args below meth c Q ad0 hR X hret
  have X : Cx G A RX7 cX7_cut 3 p s0 m args c := X
  have hT := tk_X7_cut X (calE_ok (es := es_X7_cut) (enn)) (rmD rfl hR) hret
  rw [← eq_X7_cut   a0 a1 s] at h
  refine ex_good hT (fun pc' ls' st' x' hh => ?_) 28 0 _ [] s h
  cases hh

noncomputable def en_X7_cut  : En := fun _ av s k => match av with
  | [.int a0, .long a1] => (bL (f_X7_cut a0 a1 s) k)
  | _ => none
set_option maxRecDepth 100000 in
set_option maxHeartbeats 4000000 in
theorem en_X7_cut_ok {l : Launch} {G : Gm} (D : Nat) (hD : 1 ≤ D) : enOK l G D 60 en_X7_cut := by
  intro ρ av x k r h
  unfold en_X7_cut at h
  split at h
  · obtain ⟨q, h1, h2⟩ := bind_of h
    obtain ⟨D', rfl⟩ : ∃ D', D = D' + 1 := ⟨D - 1, by omega⟩
    exact ⟨_, _, h2, run_X7_cut  _ _ _ _ h1 D' (by omega)⟩
  · cases h

/-! HatRank$Shelves set -/
noncomputable def tb_X7_set (cal : Cal SS) : List (Nat × Ins SS) := [(0, e_aload 0 1), (1, e_iload 1 2), (2, e_iload 2 3), (3, e_callV opsS cal 57 2 7 6), (6, e_ifne 27 9), (9, e_aload 0 10), (10, e_getR opsS 7 3 13), (13, e_iload 1 14), (14, e_aaldS 62 63 1 6 15), (15, e_iload 2 16), (16, e_aload 0 17), (17, e_getR opsS 7 0 20), (20, e_iload 1 21), (21, e_ald opsS 100 22), (22, e_lload 3 23), (23, e_callS cal 60 2 26), (26, e_lastE 27), (27, e_vret)]
set_option maxRecDepth 100000 in
set_option maxHeartbeats 4000000 in
theorem tk_X7_set {ad0 : Nat → Nat} {G : Gm} {A : Nat → Prop} {p : Program} {l : Launch} {e : Env} {R : Room} {s0 : State} {m : MethodId} {args : Array Value} {below : List Frame} {meth : Method} {c : Code} {Q : State → Prop} {ρ : Type} {ret : Option Value → SS → Option ρ} {r : ρ} (X : Cx G A RX7 cX7_set 5 p s0 m args c) {D' : Nat} {cal : Cal SS} (hcal : calOK l G opsS D' cal) (hRm : ∀ k, k ≤ 21 → D' + 1 ≤ R.frames ∧ 8 + (k + 11) + 40 * D' ≤ R.locals) (hret : RetK G A cX7_set 113 6344 ad0 p l e R s0 m args below meth c Q opsS ret r .return_ okV) : ∀ q ∈ tb_X7_set cal, OKi G A 5 113 6344 ad0 p l e R s0 m args below meth c Q opsS ret r q.1 q.2 :=
    okc (ok_aload_n (j := 0) X (by decide +kernel) rfl rfl) (
    okc (ok_iload_n (j := 1) X (by decide +kernel) rfl rfl) (
    okc (ok_iload_n (j := 2) X (by decide +kernel) rfl rfl) (
    okc (ok_callV (ci := 7) (C := RX7) (T := TX7) (N := 4) (Y := (yX7_refusal, cX7_refusal, 3, (some .int))) X hcal opsS_n md_X7_refusal rfl (by decide) rfl wc_X7_refusal wl_X7_45 wi_X7 wm_X7_refusal wv_X7_refusal (by decide +kernel) (hRm 3 (by decide)) (by decide +kernel) rfl) (
    okc (ok_ifne (off := 21) X (by decide +kernel) (by decide) rfl) (
    okc (ok_aload_n (j := 0) X (by decide +kernel) rfl rfl) (
    okc (ok_getR (ci := 7) (kf := 3) (idx := 23) (C := RX7) (T := TX7) (N := 4) X rfl (by decide) inX7 (by decide) wf_X7_23 (fun _ _ _ => rfl) (by decide +kernel) rfl) (
    okc (ok_iload_n (j := 1) X (by decide +kernel) rfl rfl) (
    okc (ok_aaldE X (by decide +kernel) rfl) (
    okc (ok_iload_n (j := 2) X (by decide +kernel) rfl rfl) (
    okc (ok_aload_n (j := 0) X (by decide +kernel) rfl rfl) (
    okc (ok_getR (ci := 7) (kf := 0) (idx := 11) (C := RX7) (T := TX7) (N := 4) X rfl (by decide) inX7 (by decide) wf_X7_11 (fun _ _ _ => rfl) (by decide +kernel) rfl) (
    okc (ok_iload_n (j := 1) X (by decide +kernel) rfl rfl) (
    okc (ok_iald X (by decide +kernel) rfl) (
    okc (ok_lload_n (j := 3) X (by decide +kernel) rfl rfl) (
    okc (ok_callS (Y := (yX7_cut, cX7_cut, 3, (some .long))) X hcal opsS_n md_X7_cut wc_X7_cut wl_X7_49 wi_X7 ws_X7_cut (by decide +kernel) (hRm 3 (by decide)) (by decide +kernel) rfl) (
    okc (ok_lastE X (by decide +kernel) rfl) (
    okc (ok_vret hret (by decide +kernel)) (
    okn))))))))))))))))))
noncomputable def es_X7_set  : List (Nat × En) := [(57, en_X7_refusal), (60, en_X7_cut)]
set_option maxRecDepth 100000 in
set_option maxHeartbeats 4000000 in
theorem eq_X7_set   (a0 : Int32) (a1 : Int32) (a2 : Int64) (s : SS) : ex (tb_X7_set (calE (es_X7_set))) rV [] (fun _ _ _ _ => none) 20 0 [some (.ref 58), some (.int a0), some (.int a1), some (.long a2), none] [] s = f_X7_set a0 a1 a2 s := by
  rfl
set_option maxRecDepth 100000 in
set_option maxHeartbeats 4000000 in
theorem run_X7_set {l : Launch} {G : Gm}   (a0 : Int32) (a1 : Int32) (a2 : Int64) (s : SS) (q : SS) (h : f_X7_set a0 a1 a2 s = some q) (D' : Nat) (hD : 3 ≤ D') : RunsM l G (D' + 1) (md 59) (embS s) [.ref 58, .int a0, .int a1, .long a2] none (embS q) := by
  rw [md_X7_set]
  refine runs_V (plainFor_of_name (by decide +kernel)) (Nat.le_of_ble_eq_true rfl) rfl ?_
  intro A p e R s0 m args below meth c Q ad0 hR X hret
  have X : Cx G A RX7 cX7_set 5 p s0 m args c := X
  have hT := tk_X7_set X (calE_ok (es := es_X7_set) (enc (en_X7_refusal_ok _ (by omega)) (enc (en_X7_cut_ok _ (by omega)) (enn)))) (rmD rfl hR) hret
  rw [← eq_X7_set   a0 a1 a2 s] at h
  refine ex_good hT (fun pc' ls' st' x' hh => ?_) 20 0 _ [] s h
  cases hh

noncomputable def en_X7_set  : En := fun _ av s k => match av with
  | [.ref r0, .int a0, .int a1, .long a2] => (gd (Nat.beq r0 58) (bV (f_X7_set a0 a1 a2 s) k))
  | _ => none
set_option maxRecDepth 100000 in
set_option maxHeartbeats 4000000 in
theorem en_X7_set_ok {l : Launch} {G : Gm} (D : Nat) (hD : 4 ≤ D) : enOK l G D 59 en_X7_set := by
  intro ρ av x k r h
  unfold en_X7_set at h
  split at h
  · obtain ⟨g0, h⟩ := gd_some h
    obtain ⟨q, h1, h2⟩ := bind_of h
    have e0 := beq1 g0
    subst e0
    obtain ⟨D', rfl⟩ : ∃ D', D = D' + 1 := ⟨D - 1, by omega⟩
    exact ⟨_, _, h2, run_X7_set  _ _ _ _ _ h1 D' (by omega)⟩
  · cases h

/-! HatRank$Shelves hasSpan -/
noncomputable def tb_X7_hasSpan (cal : Cal SS) : List (Nat × Ins SS) := [(0, e_iload 2 1), (1, e_iflt 32 4), (4, e_iload 3 5), (5, e_iflt 32 8), (8, e_iload 3 9), (9, e_aload 0 10), (10, e_iload 1 11), (11, e_callV opsS cal 52 1 7 14), (14, e_cgt 32 17), (17, e_iload 2 18), (18, e_aload 0 19), (19, e_iload 1 20), (20, e_callV opsS cal 52 1 7 23), (23, e_iload 3 24), (24, e_bin aSub 25), (25, e_cgt 32 28), (28, e_iconst (1) 29), (29, e_goto 33), (32, e_iconst (0) 33), (33, e_zret)]
set_option maxRecDepth 100000 in
set_option maxHeartbeats 4000000 in
theorem tk_X7_hasSpan {ad0 : Nat → Nat} {G : Gm} {A : Nat → Prop} {p : Program} {l : Launch} {e : Env} {R : Room} {s0 : State} {m : MethodId} {args : Array Value} {below : List Frame} {meth : Method} {c : Code} {Q : State → Prop} {ρ : Type} {ret : Option Value → SS → Option ρ} {r : ρ} (X : Cx G A RX7 cX7_hasSpan 4 p s0 m args c) {D' : Nat} {cal : Cal SS} (hcal : calOK l G opsS D' cal) (hRm : ∀ k, k ≤ 21 → D' + 1 ≤ R.frames ∧ 8 + (k + 11) + 40 * D' ≤ R.locals) (hret : RetK G A cX7_hasSpan 113 6344 ad0 p l e R s0 m args below meth c Q opsS ret r .ireturn okZ) : ∀ q ∈ tb_X7_hasSpan cal, OKi G A 4 113 6344 ad0 p l e R s0 m args below meth c Q opsS ret r q.1 q.2 :=
    okc (ok_iload_n (j := 2) X (by decide +kernel) rfl rfl) (
    okc (ok_iflt (off := 31) X (by decide +kernel) (by decide) rfl) (
    okc (ok_iload_n (j := 3) X (by decide +kernel) rfl rfl) (
    okc (ok_iflt (off := 27) X (by decide +kernel) (by decide) rfl) (
    okc (ok_iload_n (j := 3) X (by decide +kernel) rfl rfl) (
    okc (ok_aload_n (j := 0) X (by decide +kernel) rfl rfl) (
    okc (ok_iload_n (j := 1) X (by decide +kernel) rfl rfl) (
    okc (ok_callV (ci := 7) (C := RX7) (T := TX7) (N := 4) (Y := (yX7_lengthOf, cX7_lengthOf, 2, (some .int))) X hcal opsS_n md_X7_lengthOf rfl (by decide) rfl wc_X7_lengthOf wl_X7_53 wi_X7 wm_X7_lengthOf wv_X7_lengthOf (by decide +kernel) (hRm 2 (by decide)) (by decide +kernel) rfl) (
    okc (ok_cgt (off := 18) X (by decide +kernel) (by decide) rfl) (
    okc (ok_iload_n (j := 2) X (by decide +kernel) rfl rfl) (
    okc (ok_aload_n (j := 0) X (by decide +kernel) rfl rfl) (
    okc (ok_iload_n (j := 1) X (by decide +kernel) rfl rfl) (
    okc (ok_callV (ci := 7) (C := RX7) (T := TX7) (N := 4) (Y := (yX7_lengthOf, cX7_lengthOf, 2, (some .int))) X hcal opsS_n md_X7_lengthOf rfl (by decide) rfl wc_X7_lengthOf wl_X7_53 wi_X7 wm_X7_lengthOf wv_X7_lengthOf (by decide +kernel) (hRm 2 (by decide)) (by decide +kernel) rfl) (
    okc (ok_iload_n (j := 3) X (by decide +kernel) rfl rfl) (
    okc (ok_isub X (by decide +kernel) rfl) (
    okc (ok_cgt (off := 7) X (by decide +kernel) (by decide) rfl) (
    okc (ok_iconst (n := 1) X (by decide +kernel) rfl rfl) (
    okc (ok_goto (off := 4) X (by decide +kernel) (by decide)) (
    okc (ok_iconst (n := 0) X (by decide +kernel) rfl rfl) (
    okc (ok_zret hret (by decide +kernel)) (
    okn))))))))))))))))))))
noncomputable def es_X7_hasSpan  : List (Nat × En) := [(52, en_X7_lengthOf)]
set_option maxRecDepth 100000 in
set_option maxHeartbeats 4000000 in
theorem eq_X7_hasSpan   (a0 : Int32) (a1 : Int32) (a2 : Int32) (s : SS) : ex (tb_X7_hasSpan (calE (es_X7_hasSpan))) rI [] (fun _ _ _ _ => none) 22 0 [some (.ref 58), some (.int a0), some (.int a1), some (.int a2)] [] s = f_X7_hasSpan a0 a1 a2 s := by
  rfl
set_option maxRecDepth 100000 in
set_option maxHeartbeats 4000000 in
theorem run_X7_hasSpan {l : Launch} {G : Gm}   (a0 : Int32) (a1 : Int32) (a2 : Int32) (s : SS) (q : (Int32 × SS)) (h : f_X7_hasSpan a0 a1 a2 s = some q) (D' : Nat) (hD : 3 ≤ D') : RunsM l G (D' + 1) (md 61) (embS s) [.ref 58, .int a0, .int a1, .int a2] (some (.int q.1)) (embS q.2) := by
  rw [md_X7_hasSpan]
  refine runs_Z (plainFor_of_name (by decide +kernel)) (Nat.le_of_ble_eq_true rfl) rfl ?_
  intro A p e R s0 m args below meth c Q ad0 hR X hret
  have X : Cx G A RX7 cX7_hasSpan 4 p s0 m args c := X
  have hT := tk_X7_hasSpan X (calE_ok (es := es_X7_hasSpan) (enc (en_X7_lengthOf_ok _ (by omega)) (enn))) (rmD rfl hR) hret
  rw [← eq_X7_hasSpan   a0 a1 a2 s] at h
  refine ex_good hT (fun pc' ls' st' x' hh => ?_) 22 0 _ [] s h
  cases hh

noncomputable def en_X7_hasSpan  : En := fun _ av s k => match av with
  | [.ref r0, .int a0, .int a1, .int a2] => (gd (Nat.beq r0 58) (bI (f_X7_hasSpan a0 a1 a2 s) k))
  | _ => none
set_option maxRecDepth 100000 in
set_option maxHeartbeats 4000000 in
theorem en_X7_hasSpan_ok {l : Launch} {G : Gm} (D : Nat) (hD : 4 ≤ D) : enOK l G D 61 en_X7_hasSpan := by
  intro ρ av x k r h
  unfold en_X7_hasSpan at h
  split at h
  · obtain ⟨g0, h⟩ := gd_some h
    obtain ⟨q, h1, h2⟩ := bind_of h
    have e0 := beq1 g0
    subst e0
    obtain ⟨D', rfl⟩ : ∃ D', D = D' + 1 := ⟨D - 1, by omega⟩
    exact ⟨_, _, h2, run_X7_hasSpan  _ _ _ _ _ h1 D' (by omega)⟩
  · cases h

/-! HatRank$Shelves carry -/
noncomputable def tb_X7_carry (cal : Cal SS) : List (Nat × Ins SS) := [(0, e_aload 0 1), (1, e_iload 1 2), (2, e_iload 3 3), (3, e_callV opsS cal 50 2 7 6), (6, e_ifeq 52 9), (9, e_aload 0 10), (10, e_iload 1 11), (11, e_iload 2 12), (12, e_iload 5 14), (14, e_callV opsS cal 61 3 7 17), (17, e_ifeq 52 20), (20, e_aload 0 21), (21, e_iload 3 22), (22, e_iload 4 24), (24, e_iload 5 26), (26, e_callV opsS cal 61 3 7 29), (29, e_ifeq 52 32), (32, e_aload 0 33), (33, e_getR opsS 7 3 36), (36, e_iload 1 37), (37, e_aaldS 62 63 1 6 38), (38, e_iload 2 39), (39, e_aload 0 40), (40, e_getR opsS 7 3 43), (43, e_iload 3 44), (44, e_aaldS 62 63 1 6 45), (45, e_iload 4 47), (47, e_iload 5 49), (49, e_copyLE 52), (52, e_vret)]
set_option maxRecDepth 100000 in
set_option maxHeartbeats 4000000 in
theorem tk_X7_carry {ad0 : Nat → Nat} {G : Gm} {A : Nat → Prop} {p : Program} {l : Launch} {e : Env} {R : Room} {s0 : State} {m : MethodId} {args : Array Value} {below : List Frame} {meth : Method} {c : Code} {Q : State → Prop} {ρ : Type} {ret : Option Value → SS → Option ρ} {r : ρ} (X : Cx G A RX7 cX7_carry 6 p s0 m args c) {D' : Nat} {cal : Cal SS} (hcal : calOK l G opsS D' cal) (hRm : ∀ k, k ≤ 21 → D' + 1 ≤ R.frames ∧ 8 + (k + 11) + 40 * D' ≤ R.locals) (hret : RetK G A cX7_carry 113 6344 ad0 p l e R s0 m args below meth c Q opsS ret r .return_ okV) : ∀ q ∈ tb_X7_carry cal, OKi G A 6 113 6344 ad0 p l e R s0 m args below meth c Q opsS ret r q.1 q.2 :=
    okc (ok_aload_n (j := 0) X (by decide +kernel) rfl rfl) (
    okc (ok_iload_n (j := 1) X (by decide +kernel) rfl rfl) (
    okc (ok_iload_n (j := 3) X (by decide +kernel) rfl rfl) (
    okc (ok_callV (ci := 7) (C := RX7) (T := TX7) (N := 4) (Y := (yX7_holdAlike, cX7_holdAlike, 3, (some .boolean))) X hcal opsS_n md_X7_holdAlike rfl (by decide) rfl wc_X7_holdAlike wl_X7_57 wi_X7 wm_X7_holdAlike wv_X7_holdAlike (by decide +kernel) (hRm 3 (by decide)) (by decide +kernel) rfl) (
    okc (ok_ifeq (off := 46) X (by decide +kernel) (by decide) rfl) (
    okc (ok_aload_n (j := 0) X (by decide +kernel) rfl rfl) (
    okc (ok_iload_n (j := 1) X (by decide +kernel) rfl rfl) (
    okc (ok_iload_n (j := 2) X (by decide +kernel) rfl rfl) (
    okc (ok_iload X (by decide +kernel) rfl) (
    okc (ok_callV (ci := 7) (C := RX7) (T := TX7) (N := 4) (Y := (yX7_hasSpan, cX7_hasSpan, 4, (some .boolean))) X hcal opsS_n md_X7_hasSpan rfl (by decide) rfl wc_X7_hasSpan wl_X7_61 wi_X7 wm_X7_hasSpan wv_X7_hasSpan (by decide +kernel) (hRm 4 (by decide)) (by decide +kernel) rfl) (
    okc (ok_ifeq (off := 35) X (by decide +kernel) (by decide) rfl) (
    okc (ok_aload_n (j := 0) X (by decide +kernel) rfl rfl) (
    okc (ok_iload_n (j := 3) X (by decide +kernel) rfl rfl) (
    okc (ok_iload X (by decide +kernel) rfl) (
    okc (ok_iload X (by decide +kernel) rfl) (
    okc (ok_callV (ci := 7) (C := RX7) (T := TX7) (N := 4) (Y := (yX7_hasSpan, cX7_hasSpan, 4, (some .boolean))) X hcal opsS_n md_X7_hasSpan rfl (by decide) rfl wc_X7_hasSpan wl_X7_61 wi_X7 wm_X7_hasSpan wv_X7_hasSpan (by decide +kernel) (hRm 4 (by decide)) (by decide +kernel) rfl) (
    okc (ok_ifeq (off := 23) X (by decide +kernel) (by decide) rfl) (
    okc (ok_aload_n (j := 0) X (by decide +kernel) rfl rfl) (
    okc (ok_getR (ci := 7) (kf := 3) (idx := 23) (C := RX7) (T := TX7) (N := 4) X rfl (by decide) inX7 (by decide) wf_X7_23 (fun _ _ _ => rfl) (by decide +kernel) rfl) (
    okc (ok_iload_n (j := 1) X (by decide +kernel) rfl rfl) (
    okc (ok_aaldE X (by decide +kernel) rfl) (
    okc (ok_iload_n (j := 2) X (by decide +kernel) rfl rfl) (
    okc (ok_aload_n (j := 0) X (by decide +kernel) rfl rfl) (
    okc (ok_getR (ci := 7) (kf := 3) (idx := 23) (C := RX7) (T := TX7) (N := 4) X rfl (by decide) inX7 (by decide) wf_X7_23 (fun _ _ _ => rfl) (by decide +kernel) rfl) (
    okc (ok_iload_n (j := 3) X (by decide +kernel) rfl rfl) (
    okc (ok_aaldE X (by decide +kernel) rfl) (
    okc (ok_iload X (by decide +kernel) rfl) (
    okc (ok_iload X (by decide +kernel) rfl) (
    okc (ok_copyLE X wl_X7_65 wn_arraycopy ws_arraycopy wi_J10 (rm26 hRm) (by decide +kernel) rfl) (
    okc (ok_vret hret (by decide +kernel)) (
    okn))))))))))))))))))))))))))))))
noncomputable def es_X7_carry  : List (Nat × En) := [(50, en_X7_holdAlike), (61, en_X7_hasSpan)]
set_option maxRecDepth 100000 in
set_option maxHeartbeats 4000000 in
theorem eq_X7_carry   (a0 : Int32) (a1 : Int32) (a2 : Int32) (a3 : Int32) (a4 : Int32) (s : SS) : ex (tb_X7_carry (calE (es_X7_carry))) rV [] (fun _ _ _ _ => none) 32 0 [some (.ref 58), some (.int a0), some (.int a1), some (.int a2), some (.int a3), some (.int a4)] [] s = f_X7_carry a0 a1 a2 a3 a4 s := by
  rfl
set_option maxRecDepth 100000 in
set_option maxHeartbeats 4000000 in
theorem run_X7_carry {l : Launch} {G : Gm}   (a0 : Int32) (a1 : Int32) (a2 : Int32) (a3 : Int32) (a4 : Int32) (s : SS) (q : SS) (h : f_X7_carry a0 a1 a2 a3 a4 s = some q) (D' : Nat) (hD : 4 ≤ D') : RunsM l G (D' + 1) (md 62) (embS s) [.ref 58, .int a0, .int a1, .int a2, .int a3, .int a4] none (embS q) := by
  rw [md_X7_carry]
  refine runs_V (plainFor_of_name (by decide +kernel)) (Nat.le_of_ble_eq_true rfl) rfl ?_
  intro A p e R s0 m args below meth c Q ad0 hR X hret
  have X : Cx G A RX7 cX7_carry 6 p s0 m args c := X
  have hT := tk_X7_carry X (calE_ok (es := es_X7_carry) (enc (en_X7_holdAlike_ok _ (by omega)) (enc (en_X7_hasSpan_ok _ (by omega)) (enn)))) (rmD rfl hR) hret
  rw [← eq_X7_carry   a0 a1 a2 a3 a4 s] at h
  refine ex_good hT (fun pc' ls' st' x' hh => ?_) 32 0 _ [] s h
  cases hh

noncomputable def en_X7_carry  : En := fun _ av s k => match av with
  | [.ref r0, .int a0, .int a1, .int a2, .int a3, .int a4] => (gd (Nat.beq r0 58) (bV (f_X7_carry a0 a1 a2 a3 a4 s) k))
  | _ => none
set_option maxRecDepth 100000 in
set_option maxHeartbeats 4000000 in
theorem en_X7_carry_ok {l : Launch} {G : Gm} (D : Nat) (hD : 5 ≤ D) : enOK l G D 62 en_X7_carry := by
  intro ρ av x k r h
  unfold en_X7_carry at h
  split at h
  · obtain ⟨g0, h⟩ := gd_some h
    obtain ⟨q, h1, h2⟩ := bind_of h
    have e0 := beq1 g0
    subst e0
    obtain ⟨D', rfl⟩ : ∃ D', D = D' + 1 := ⟨D - 1, by omega⟩
    exact ⟨_, _, h2, run_X7_carry  _ _ _ _ _ _ _ h1 D' (by omega)⟩
  · cases h

