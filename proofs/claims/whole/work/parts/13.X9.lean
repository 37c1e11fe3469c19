/-! HatRank$Town hasSetting -/
noncomputable def tb_X9_hasSetting (cal : Cal SS) : List (Nat × Ins SS) := [(0, e_iload 1 1), (1, e_ifne 11 4), (4, e_aload 0 5), (5, e_getI opsS 9 0 8), (8, e_goto 25), (11, e_iload 1 12), (12, e_iconst (3) 13), (13, e_cne 21 16), (16, e_iconst (24) 18), (18, e_goto 25), (21, e_aload 0 22), (22, e_getI opsS 9 1 25), (25, e_istore 3 26), (26, e_iload 1 27), (27, e_iflt 48 30), (30, e_iload 1 31), (31, e_iconst (3) 32), (32, e_cgt 48 35), (35, e_iload 2 36), (36, e_iflt 48 39), (39, e_iload 2 40), (40, e_iload 3 41), (41, e_cge 48 44), (44, e_iconst (1) 45), (45, e_goto 49), (48, e_iconst (0) 49), (49, e_zret)]
set_option maxRecDepth 100000 in
set_option maxHeartbeats 4000000 in
theorem tk_X9_hasSetting {ad0 : Nat → Nat} {G : Gm} {A : Nat → Prop} {p : Program} {l : Launch} {e : Env} {R : Room} {s0 : State} {m : MethodId} {args : Array Value} {below : List Frame} {meth : Method} {c : Code} {Q : State → Prop} {ρ : Type} {ret : Option Value → SS → Option ρ} {r : ρ} (X : Cx G A RX9 cX9_hasSetting 4 p s0 m args c) {D' : Nat} {cal : Cal SS} (hcal : calOK l G opsS D' cal) (hRm : ∀ k, k ≤ 21 → D' + 1 ≤ R.frames ∧ 8 + (k + 11) + 40 * D' ≤ R.locals) (hret : RetK G A cX9_hasSetting 113 6344 ad0 p l e R s0 m args below meth c Q opsS ret r .ireturn okZ) : ∀ q ∈ tb_X9_hasSetting cal, OKi G A 4 113 6344 ad0 p l e R s0 m args below meth c Q opsS ret r q.1 q.2 :=
    okc (ok_iload_n (j := 1) X (by decide +kernel) rfl rfl) (
    okc (ok_ifne (off := 10) X (by decide +kernel) (by decide) rfl) (
    okc (ok_aload_n (j := 0) X (by decide +kernel) rfl rfl) (
    okc (ok_getI (ci := 9) (kf := 0) (idx := 33) (C := RX9) (T := TX9) (N := 8) X rfl (by decide) inX9 (by decide) wf_X9_33 (fun _ _ _ => rfl) (by decide +kernel) rfl) (
    okc (ok_goto (off := 17) X (by decide +kernel) (by decide)) (
    okc (ok_iload_n (j := 1) X (by decide +kernel) rfl rfl) (
    okc (ok_iconst (n := 3) X (by decide +kernel) rfl rfl) (
    okc (ok_cne (off := 8) X (by decide +kernel) (by decide) rfl) (
    okc (ok_bipush (n := 24) X (by decide +kernel) rfl rfl) (
    okc (ok_goto (off := 7) X (by decide +kernel) (by decide)) (
    okc (ok_aload_n (j := 0) X (by decide +kernel) rfl rfl) (
    okc (ok_getI (ci := 9) (kf := 1) (idx := 37) (C := RX9) (T := TX9) (N := 8) X rfl (by decide) inX9 (by decide) wf_X9_37 (fun _ _ _ => rfl) (by decide +kernel) rfl) (
    okc (ok_istore_n (j := 3) X (by decide +kernel) rfl rfl) (
    okc (ok_iload_n (j := 1) X (by decide +kernel) rfl rfl) (
    okc (ok_iflt (off := 21) X (by decide +kernel) (by decide) rfl) (
    okc (ok_iload_n (j := 1) X (by decide +kernel) rfl rfl) (
    okc (ok_iconst (n := 3) X (by decide +kernel) rfl rfl) (
    okc (ok_cgt (off := 16) X (by decide +kernel) (by decide) rfl) (
    okc (ok_iload_n (j := 2) X (by decide +kernel) rfl rfl) (
    okc (ok_iflt (off := 12) X (by decide +kernel) (by decide) rfl) (
    okc (ok_iload_n (j := 2) X (by decide +kernel) rfl rfl) (
    okc (ok_iload_n (j := 3) X (by decide +kernel) rfl rfl) (
    okc (ok_cge (off := 7) X (by decide +kernel) (by decide) rfl) (
    okc (ok_iconst (n := 1) X (by decide +kernel) rfl rfl) (
    okc (ok_goto (off := 4) X (by decide +kernel) (by decide)) (
    okc (ok_iconst (n := 0) X (by decide +kernel) rfl rfl) (
    okc (ok_zret hret (by decide +kernel)) (
    okn)))))))))))))))))))))))))))
noncomputable def es_X9_hasSetting  : List (Nat × En) := []
set_option maxRecDepth 100000 in
set_option maxHeartbeats 4000000 in
theorem eq_X9_hasSetting   (a0 : Int32) (a1 : Int32) (s : SS) : ex (tb_X9_hasSetting (calE (es_X9_hasSetting))) rI [] (fun _ _ _ _ => none) 29 0 [some (.ref 1), some (.int a0), some (.int a1), none] [] s = f_X9_hasSetting a0 a1 s := by
  rfl
set_option maxRecDepth 100000 in
set_option maxHeartbeats 4000000 in
theorem run_X9_hasSetting {l : Launch} {G : Gm}   (a0 : Int32) (a1 : Int32) (s : SS) (q : (Int32 × SS)) (h : f_X9_hasSetting a0 a1 s = some q) (D' : Nat) (hD : 0 ≤ D') : RunsM l G (D' + 1) (md 84) (embS s) [.ref 1, .int a0, .int a1] (some (.int q.1)) (embS q.2) := by
  rw [md_X9_hasSetting]
  refine runs_Z (plainFor_of_name (by decide +kernel)) (Nat.le_of_ble_eq_true rfl) rfl ?_
  intro A p e R s0 m args below meth c Q ad0 hR X hret
  have X : Cx G A RX9 cX9_hasSetting 4 p s0 m args c := X
  have hT := tk_X9_hasSetting X (calE_ok (es := es_X9_hasSetting) (enn)) (rmD rfl hR) hret
  rw [← eq_X9_hasSetting   a0 a1 s] at h
  refine ex_good hT (fun pc' ls' st' x' hh => ?_) 29 0 _ [] s h
  cases hh

noncomputable def en_X9_hasSetting  : En := fun _ av s k => match av with
  | [.ref r0, .int a0, .int a1] => (gd (Nat.beq r0 1) (bI (f_X9_hasSetting a0 a1 s) k))
  | _ => none
set_option maxRecDepth 100000 in
set_option maxHeartbeats 4000000 in
theorem en_X9_hasSetting_ok {l : Launch} {G : Gm} (D : Nat) (hD : 1 ≤ D) : enOK l G D 84 en_X9_hasSetting := by
  intro ρ av x k r h
  unfold en_X9_hasSetting at h
  split at h
  · obtain ⟨g0, h⟩ := gd_some h
    obtain ⟨q, h1, h2⟩ := bind_of h
    have e0 := beq1 g0
    subst e0
    obtain ⟨D', rfl⟩ : ∃ D', D = D' + 1 := ⟨D - 1, by omega⟩
    exact ⟨_, _, h2, run_X9_hasSetting  _ _ _ _ h1 D' (by omega)⟩
  · cases h

/-! HatRank$Town exchange -/
noncomputable def tb_X9_exchange (cal : Cal SS) : List (Nat × Ins SS) := [(0, e_aload 0 1), (1, e_iload 1 2), (2, e_iload 2 3), (3, e_callV opsS cal 84 2 9 6), (6, e_ifne 11 9), (9, e_iconst (-1) 10), (10, e_iret), (11, e_iload 1 12), (12, e_ifne 22 15), (15, e_aload 0 16), (16, e_getR opsS 9 3 19), (19, e_goto 50), (22, e_iload 1 23), (23, e_iconst (1) 24), (24, e_cne 34 27), (27, e_aload 0 28), (28, e_getR opsS 9 4 31), (31, e_goto 50), (34, e_iload 1 35), (35, e_iconst (2) 36), (36, e_cne 46 39), (39, e_aload 0 40), (40, e_getR opsS 9 5 43), (43, e_goto 50), (46, e_aload 0 47), (47, e_getR opsS 9 6 50), (50, e_astore 4 52), (52, e_aload 4 54), (54, e_iload 2 55), (55, e_ald opsS 100 56), (56, e_istore 5 58), (58, e_aload 4 60), (60, e_iload 2 61), (61, e_iload 3 62), (62, e_ast opsS 100 (fun v => v) 63), (63, e_iload 5 65), (65, e_iret)]
set_option maxRecDepth 100000 in
set_option maxHeartbeats 4000000 in
theorem tk_X9_exchange {ad0 : Nat → Nat} {G : Gm} {A : Nat → Prop} {p : Program} {l : Launch} {e : Env} {R : Room} {s0 : State} {m : MethodId} {args : Array Value} {below : List Frame} {meth : Method} {c : Code} {Q : State → Prop} {ρ : Type} {ret : Option Value → SS → Option ρ} {r : ρ} (X : Cx G A RX9 cX9_exchange 6 p s0 m args c) {D' : Nat} {cal : Cal SS} (hcal : calOK l G opsS D' cal) (hRm : ∀ k, k ≤ 21 → D' + 1 ≤ R.frames ∧ 8 + (k + 11) + 40 * D' ≤ R.locals) (hret : RetK G A cX9_exchange 113 6344 ad0 p l e R s0 m args below meth c Q opsS ret r .ireturn okI) : ∀ q ∈ tb_X9_exchange cal, OKi G A 6 113 6344 ad0 p l e R s0 m args below meth c Q opsS ret r q.1 q.2 :=
    okc (ok_aload_n (j := 0) X (by decide +kernel) rfl rfl) (
    okc (ok_iload_n (j := 1) X (by decide +kernel) rfl rfl) (
    okc (ok_iload_n (j := 2) X (by decide +kernel) rfl rfl) (
    okc (ok_callV (ci := 9) (C := RX9) (T := TX9) (N := 8) (Y := (yX9_hasSetting, cX9_hasSetting, 4, (some .boolean))) X hcal opsS_n md_X9_hasSetting rfl (by decide) rfl wc_X9_hasSetting wl_X9_53 wi_X9 wm_X9_hasSetting wv_X9_hasSetting (by decide +kernel) (hRm 4 (by decide)) (by decide +kernel) rfl) (
    okc (ok_ifne (off := 5) X (by decide +kernel) (by decide) rfl) (
    okc (ok_iconst (n := -1) X (by decide +kernel) rfl rfl) (
    okc (ok_iret hret (by decide +kernel)) (
    okc (ok_iload_n (j := 1) X (by decide +kernel) rfl rfl) (
    okc (ok_ifne (off := 10) X (by decide +kernel) (by decide) rfl) (
    okc (ok_aload_n (j := 0) X (by decide +kernel) rfl rfl) (
    okc (ok_getR (ci := 9) (kf := 3) (idx := 9) (C := RX9) (T := TX9) (N := 8) X rfl (by decide) inX9 (by decide) wf_X9_9 (fun _ _ _ => rfl) (by decide +kernel) rfl) (
    okc (ok_goto (off := 31) X (by decide +kernel) (by decide)) (
    okc (ok_iload_n (j := 1) X (by decide +kernel) rfl rfl) (
    okc (ok_iconst (n := 1) X (by decide +kernel) rfl rfl) (
    okc (ok_cne (off := 10) X (by decide +kernel) (by decide) rfl) (
    okc (ok_aload_n (j := 0) X (by decide +kernel) rfl rfl) (
    okc (ok_getR (ci := 9) (kf := 4) (idx := 15) (C := RX9) (T := TX9) (N := 8) X rfl (by decide) inX9 (by decide) wf_X9_15 (fun _ _ _ => rfl) (by decide +kernel) rfl) (
    okc (ok_goto (off := 19) X (by decide +kernel) (by decide)) (
    okc (ok_iload_n (j := 1) X (by decide +kernel) rfl rfl) (
    okc (ok_iconst (n := 2) X (by decide +kernel) rfl rfl) (
    okc (ok_cne (off := 10) X (by decide +kernel) (by decide) rfl) (
    okc (ok_aload_n (j := 0) X (by decide +kernel) rfl rfl) (
    okc (ok_getR (ci := 9) (kf := 5) (idx := 18) (C := RX9) (T := TX9) (N := 8) X rfl (by decide) inX9 (by decide) wf_X9_18 (fun _ _ _ => rfl) (by decide +kernel) rfl) (
    okc (ok_goto (off := 7) X (by decide +kernel) (by decide)) (
    okc (ok_aload_n (j := 0) X (by decide +kernel) rfl rfl) (
    okc (ok_getR (ci := 9) (kf := 6) (idx := 21) (C := RX9) (T := TX9) (N := 8) X rfl (by decide) inX9 (by decide) wf_X9_21 (fun _ _ _ => rfl) (by decide +kernel) rfl) (
    okc (ok_astore X (by decide +kernel) rfl) (
    okc (ok_aload X (by decide +kernel) rfl) (
    okc (ok_iload_n (j := 2) X (by decide +kernel) rfl rfl) (
    okc (ok_iald X (by decide +kernel) rfl) (
    okc (ok_istore X (by decide +kernel) rfl) (
    okc (ok_aload X (by decide +kernel) rfl) (
    okc (ok_iload_n (j := 2) X (by decide +kernel) rfl rfl) (
    okc (ok_iload_n (j := 3) X (by decide +kernel) rfl rfl) (
    okc (ok_iast X opsS_ok (by decide +kernel) rfl) (
    okc (ok_iload X (by decide +kernel) rfl) (
    okc (ok_iret hret (by decide +kernel)) (
    okn)))))))))))))))))))))))))))))))))))))
noncomputable def es_X9_exchange  : List (Nat × En) := [(84, en_X9_hasSetting)]
set_option maxRecDepth 100000 in
set_option maxHeartbeats 4000000 in
theorem eq_X9_exchange   (a0 : Int32) (a1 : Int32) (a2 : Int32) (s : SS) : ex (tb_X9_exchange (calE (es_X9_exchange))) rI [] (fun _ _ _ _ => none) 39 0 [some (.ref 1), some (.int a0), some (.int a1), some (.int a2), none, none] [] s = f_X9_exchange a0 a1 a2 s := by
  rfl
set_option maxRecDepth 100000 in
set_option maxHeartbeats 4000000 in
theorem run_X9_exchange {l : Launch} {G : Gm}   (a0 : Int32) (a1 : Int32) (a2 : Int32) (s : SS) (q : (Int32 × SS)) (h : f_X9_exchange a0 a1 a2 s = some q) (D' : Nat) (hD : 1 ≤ D') : RunsM l G (D' + 1) (md 85) (embS s) [.ref 1, .int a0, .int a1, .int a2] (some (.int q.1)) (embS q.2) := by
  rw [md_X9_exchange]
  refine runs_I (plainFor_of_name (by decide +kernel)) (Nat.le_of_ble_eq_true rfl) rfl ?_
  intro A p e R s0 m args below meth c Q ad0 hR X hret
  have X : Cx G A RX9 cX9_exchange 6 p s0 m args c := X
  have hT := tk_X9_exchange X (calE_ok (es := es_X9_exchange) (enc (en_X9_hasSetting_ok _ (by omega)) (enn))) (rmD rfl hR) hret
  rw [← eq_X9_exchange   a0 a1 a2 s] at h
  refine ex_good hT (fun pc' ls' st' x' hh => ?_) 39 0 _ [] s h
  cases hh

noncomputable def en_X9_exchange  : En := fun _ av s k => match av with
  | [.ref r0, .int a0, .int a1, .int a2] => (gd (Nat.beq r0 1) (bI (f_X9_exchange a0 a1 a2 s) k))
  | _ => none
set_option maxRecDepth 100000 in
set_option maxHeartbeats 4000000 in
theorem en_X9_exchange_ok {l : Launch} {G : Gm} (D : Nat) (hD : 2 ≤ D) : enOK l G D 85 en_X9_exchange := by
  intro ρ av x k r h
  unfold en_X9_exchange at h
  split at h
  · obtain ⟨g0, h⟩ := gd_some h
    obtain ⟨q, h1, h2⟩ := bind_of h
    have e0 := beq1 g0
    subst e0
    obtain ⟨D', rfl⟩ : ∃ D', D = D' + 1 := ⟨D - 1, by omega⟩
    exact ⟨_, _, h2, run_X9_exchange  _ _ _ _ _ h1 D' (by omega)⟩
  · cases h

/-! HatRank$Town hasPlace -/
noncomputable def tb_X9_hasPlace (cal : Cal SS) : List (Nat × Ins SS) := [(0, e_iload 1 1), (1, e_iflt 16 4), (4, e_iload 1 5), (5, e_aload 0 6), (6, e_getI opsS 9 1 9), (9, e_cge 16 12), (12, e_iconst (1) 13), (13, e_goto 17), (16, e_iconst (0) 17), (17, e_zret)]
set_option maxRecDepth 100000 in
set_option maxHeartbeats 4000000 in
theorem tk_X9_hasPlace {ad0 : Nat → Nat} {G : Gm} {A : Nat → Prop} {p : Program} {l : Launch} {e : Env} {R : Room} {s0 : State} {m : MethodId} {args : Array Value} {below : List Frame} {meth : Method} {c : Code} {Q : State → Prop} {ρ : Type} {ret : Option Value → SS → Option ρ} {r : ρ} (X : Cx G A RX9 cX9_hasPlace 2 p s0 m args c) {D' : Nat} {cal : Cal SS} (hcal : calOK l G opsS D' cal) (hRm : ∀ k, k ≤ 21 → D' + 1 ≤ R.frames ∧ 8 + (k + 11) + 40 * D' ≤ R.locals) (hret : RetK G A cX9_hasPlace 113 6344 ad0 p l e R s0 m args below meth c Q opsS ret r .ireturn okZ) : ∀ q ∈ tb_X9_hasPlace cal, OKi G A 2 113 6344 ad0 p l e R s0 m args below meth c Q opsS ret r q.1 q.2 :=
    okc (ok_iload_n (j := 1) X (by decide +kernel) rfl rfl) (
    okc (ok_iflt (off := 15) X (by decide +kernel) (by decide) rfl) (
    okc (ok_iload_n (j := 1) X (by decide +kernel) rfl rfl) (
    okc (ok_aload_n (j := 0) X (by decide +kernel) rfl rfl) (
    okc (ok_getI (ci := 9) (kf := 1) (idx := 37) (C := RX9) (T := TX9) (N := 8) X rfl (by decide) inX9 (by decide) wf_X9_37 (fun _ _ _ => rfl) (by decide +kernel) rfl) (
    okc (ok_cge (off := 7) X (by decide +kernel) (by decide) rfl) (
    okc (ok_iconst (n := 1) X (by decide +kernel) rfl rfl) (
    okc (ok_goto (off := 4) X (by decide +kernel) (by decide)) (
    okc (ok_iconst (n := 0) X (by decide +kernel) rfl rfl) (
    okc (ok_zret hret (by decide +kernel)) (
    okn))))))))))
noncomputable def es_X9_hasPlace  : List (Nat × En) := []
set_option maxRecDepth 100000 in
set_option maxHeartbeats 4000000 in
theorem eq_X9_hasPlace   (a0 : Int32) (s : SS) : ex (tb_X9_hasPlace (calE (es_X9_hasPlace))) rI [] (fun _ _ _ _ => none) 12 0 [some (.ref 1), some (.int a0)] [] s = f_X9_hasPlace a0 s := by
  rfl
set_option maxRecDepth 100000 in
set_option maxHeartbeats 4000000 in
theorem run_X9_hasPlace {l : Launch} {G : Gm}   (a0 : Int32) (s : SS) (q : (Int32 × SS)) (h : f_X9_hasPlace a0 s = some q) (D' : Nat) (hD : 0 ≤ D') : RunsM l G (D' + 1) (md 78) (embS s) [.ref 1, .int a0] (some (.int q.1)) (embS q.2) := by
  rw [md_X9_hasPlace]
  refine runs_Z (plainFor_of_name (by decide +kernel)) (Nat.le_of_ble_eq_true rfl) rfl ?_
  intro A p e R s0 m args below meth c Q ad0 hR X hret
  have X : Cx G A RX9 cX9_hasPlace 2 p s0 m args c := X
  have hT := tk_X9_hasPlace X (calE_ok (es := es_X9_hasPlace) (enn)) (rmD rfl hR) hret
  rw [← eq_X9_hasPlace   a0 s] at h
  refine ex_good hT (fun pc' ls' st' x' hh => ?_) 12 0 _ [] s h
  cases hh

noncomputable def en_X9_hasPlace  : En := fun _ av s k => match av with
  | [.ref r0, .int a0] => (gd (Nat.beq r0 1) (bI (f_X9_hasPlace a0 s) k))
  | _ => none
set_option maxRecDepth 100000 in
set_option maxHeartbeats 4000000 in
theorem en_X9_hasPlace_ok {l : Launch} {G : Gm} (D : Nat) (hD : 1 ≤ D) : enOK l G D 78 en_X9_hasPlace := by
  intro ρ av x k r h
  unfold en_X9_hasPlace at h
  split at h
  · obtain ⟨g0, h⟩ := gd_some h
    obtain ⟨q, h1, h2⟩ := bind_of h
    have e0 := beq1 g0
    subst e0
    obtain ⟨D', rfl⟩ : ∃ D', D = D' + 1 := ⟨D - 1, by omega⟩
    exact ⟨_, _, h2, run_X9_hasPlace  _ _ _ h1 D' (by omega)⟩
  · cases h

/-! HatRank$Town gust -/
noncomputable def tb_X9_gust (cal : Cal SS) : List (Nat × Ins SS) := [(0, e_aload 0 1), (1, e_iload 1 2), (2, e_callV opsS cal 78 1 9 5), (5, e_ifeq 18 8), (8, e_iload 2 9), (9, e_iflt 18 12), (12, e_iload 2 13), (13, e_iconst (24) 15), (15, e_clt 20 18), (18, e_iconst (0) 19), (19, e_iret), (20, e_iconst (0) 21), (21, e_aload 0 22), (22, e_getR opsS 9 6 25), (25, e_iload 2 26), (26, e_ald opsS 100 27), (27, e_iload 3 28), (28, e_bin aAdd 29), (29, e_aload 0 30), (30, e_getR opsS 9 4 33), (33, e_iload 1 34), (34, e_ald opsS 100 35), (35, e_bin aSub 36), (36, e_callS cal 267 2 39), (39, e_iret)]
set_option maxRecDepth 100000 in
set_option maxHeartbeats 4000000 in
theorem tk_X9_gust {ad0 : Nat → Nat} {G : Gm} {A : Nat → Prop} {p : Program} {l : Launch} {e : Env} {R : Room} {s0 : State} {m : MethodId} {args : Array Value} {below : List Frame} {meth : Method} {c : Code} {Q : State → Prop} {ρ : Type} {ret : Option Value → SS → Option ρ} {r : ρ} (X : Cx G A RX9 cX9_gust 4 p s0 m args c) {D' : Nat} {cal : Cal SS} (hcal : calOK l G opsS D' cal) (hRm : ∀ k, k ≤ 21 → D' + 1 ≤ R.frames ∧ 8 + (k + 11) + 40 * D' ≤ R.locals) (hret : RetK G A cX9_gust 113 6344 ad0 p l e R s0 m args below meth c Q opsS ret r .ireturn okI) : ∀ q ∈ tb_X9_gust cal, OKi G A 4 113 6344 ad0 p l e R s0 m args below meth c Q opsS ret r q.1 q.2 :=
    okc (ok_aload_n (j := 0) X (by decide +kernel) rfl rfl) (
    okc (ok_iload_n (j := 1) X (by decide +kernel) rfl rfl) (
    okc (ok_callV (ci := 9) (C := RX9) (T := TX9) (N := 8) (Y := (yX9_hasPlace, cX9_hasPlace, 2, (some .boolean))) X hcal opsS_n md_X9_hasPlace rfl (by decide) rfl wc_X9_hasPlace wl_X9_40 wi_X9 wm_X9_hasPlace wv_X9_hasPlace (by decide +kernel) (hRm 2 (by decide)) (by decide +kernel) rfl) (
    okc (ok_ifeq (off := 13) X (by decide +kernel) (by decide) rfl) (
    okc (ok_iload_n (j := 2) X (by decide +kernel) rfl rfl) (
    okc (ok_iflt (off := 9) X (by decide +kernel) (by decide) rfl) (
    okc (ok_iload_n (j := 2) X (by decide +kernel) rfl rfl) (
    okc (ok_bipush (n := 24) X (by decide +kernel) rfl rfl) (
    okc (ok_clt (off := 5) X (by decide +kernel) (by decide) rfl) (
    okc (ok_iconst (n := 0) X (by decide +kernel) rfl rfl) (
    okc (ok_iret hret (by decide +kernel)) (
    okc (ok_iconst (n := 0) X (by decide +kernel) rfl rfl) (
    okc (ok_aload_n (j := 0) X (by decide +kernel) rfl rfl) (
    okc (ok_getR (ci := 9) (kf := 6) (idx := 21) (C := RX9) (T := TX9) (N := 8) X rfl (by decide) inX9 (by decide) wf_X9_21 (fun _ _ _ => rfl) (by decide +kernel) rfl) (
    okc (ok_iload_n (j := 2) X (by decide +kernel) rfl rfl) (
    okc (ok_iald X (by decide +kernel) rfl) (
    okc (ok_iload_n (j := 3) X (by decide +kernel) rfl rfl) (
    okc (ok_iadd X (by decide +kernel) rfl) (
    okc (ok_aload_n (j := 0) X (by decide +kernel) rfl rfl) (
    okc (ok_getR (ci := 9) (kf := 4) (idx := 15) (C := RX9) (T := TX9) (N := 8) X rfl (by decide) inX9 (by decide) wf_X9_15 (fun _ _ _ => rfl) (by decide +kernel) rfl) (
    okc (ok_iload_n (j := 1) X (by decide +kernel) rfl rfl) (
    okc (ok_iald X (by decide +kernel) rfl) (
    okc (ok_isub X (by decide +kernel) rfl) (
    okc (ok_callS (Y := (yJ9_max_7cf53, cJ9_max_7cf53, 2, (some .int))) X hcal opsS_n md_J9_max_7cf53 wc_J9_max_7cf53 wl_X9_47 wi_J9 ws_J9_max_7cf53 (by decide +kernel) (hRm 2 (by decide)) (by decide +kernel) rfl) (
    okc (ok_iret hret (by decide +kernel)) (
    okn)))))))))))))))))))))))))
noncomputable def es_X9_gust  : List (Nat × En) := [(78, en_X9_hasPlace), (267, en_J9_max_7cf53)]
set_option maxRecDepth 100000 in
set_option maxHeartbeats 4000000 in
theorem eq_X9_gust   (a0 : Int32) (a1 : Int32) (a2 : Int32) (s : SS) : ex (tb_X9_gust (calE (es_X9_gust))) rI [] (fun _ _ _ _ => none) 27 0 [some (.ref 1), some (.int a0), some (.int a1), some (.int a2)] [] s = f_X9_gust a0 a1 a2 s := by
  rfl
set_option maxRecDepth 100000 in
set_option maxHeartbeats 4000000 in
theorem run_X9_gust {l : Launch} {G : Gm}   (a0 : Int32) (a1 : Int32) (a2 : Int32) (s : SS) (q : (Int32 × SS)) (h : f_X9_gust a0 a1 a2 s = some q) (D' : Nat) (hD : 1 ≤ D') : RunsM l G (D' + 1) (md 83) (embS s) [.ref 1, .int a0, .int a1, .int a2] (some (.int q.1)) (embS q.2) := by
  rw [md_X9_gust]
  refine runs_I (plainFor_of_name (by decide +kernel)) (Nat.le_of_ble_eq_true rfl) rfl ?_
  intro A p e R s0 m args below meth c Q ad0 hR X hret
  have X : Cx G A RX9 cX9_gust 4 p s0 m args c := X
  have hT := tk_X9_gust X (calE_ok (es := es_X9_gust) (enc (en_X9_hasPlace_ok _ (by omega)) (enc (en_J9_max_7cf53_ok _ (by omega)) (enn)))) (rmD rfl hR) hret
  rw [← eq_X9_gust   a0 a1 a2 s] at h
  refine ex_good hT (fun pc' ls' st' x' hh => ?_) 27 0 _ [] s h
  cases hh

noncomputable def en_X9_gust  : En := fun _ av s k => match av with
  | [.ref r0, .int a0, .int a1, .int a2] => (gd (Nat.beq r0 1) (bI (f_X9_gust a0 a1 a2 s) k))
  | _ => none
set_option maxRecDepth 100000 in
set_option maxHeartbeats 4000000 in
theorem en_X9_gust_ok {l : Launch} {G : Gm} (D : Nat) (hD : 2 ≤ D) : enOK l G D 83 en_X9_gust := by
  intro ρ av x k r h
  unfold en_X9_gust at h
  split at h
  · obtain ⟨g0, h⟩ := gd_some h
    obtain ⟨q, h1, h2⟩ := bind_of h
    have e0 := beq1 g0
    subst e0
    obtain ⟨D', rfl⟩ : ∃ D', D = D' + 1 := ⟨D - 1, by omega⟩
    exact ⟨_, _, h2, run_X9_gust  _ _ _ _ _ h1 D' (by omega)⟩
  · cases h

/-! HatRank$Town commander -/
noncomputable def tb_X9_commander (cal : Cal SS) : List (Nat × Ins SS) := [(0, e_iconst (0) 1), (1, e_istore 2 2), (2, e_iconst (1) 3), (3, e_istore 3 4), (4, e_iload 3 5), (5, e_aload 0 6), (6, e_getI opsS 9 0 9), (9, e_cge 35 12), (12, e_aload 1 13), (13, e_getR opsS 2 0 16), (16, e_iload 3 17), (17, e_ald opsS 100 18), (18, e_aload 1 19), (19, e_getR opsS 2 0 22), (22, e_iload 2 23), (23, e_ald opsS 100 24), (24, e_cle 29 27), (27, e_iload 3 28), (28, e_istore 2 29), (29, e_iinc 3 (1) 32), (32, e_goto 4), (35, e_iload 2 36), (36, e_iret)]
set_option maxRecDepth 100000 in
set_option maxHeartbeats 4000000 in
theorem tk_X9_commander {ad0 : Nat → Nat} {G : Gm} {A : Nat → Prop} {p : Program} {l : Launch} {e : Env} {R : Room} {s0 : State} {m : MethodId} {args : Array Value} {below : List Frame} {meth : Method} {c : Code} {Q : State → Prop} {ρ : Type} {ret : Option Value → SS → Option ρ} {r : ρ} (X : Cx G A RX9 cX9_commander 4 p s0 m args c) {D' : Nat} {cal : Cal SS} (hcal : calOK l G opsS D' cal) (hRm : ∀ k, k ≤ 21 → D' + 1 ≤ R.frames ∧ 8 + (k + 11) + 40 * D' ≤ R.locals) (hret : RetK G A cX9_commander 113 6344 ad0 p l e R s0 m args below meth c Q opsS ret r .ireturn okI) : ∀ q ∈ tb_X9_commander cal, OKi G A 4 113 6344 ad0 p l e R s0 m args below meth c Q opsS ret r q.1 q.2 :=
    okc (ok_iconst (n := 0) X (by decide +kernel) rfl rfl) (
    okc (ok_istore_n (j := 2) X (by decide +kernel) rfl rfl) (
    okc (ok_iconst (n := 1) X (by decide +kernel) rfl rfl) (
    okc (ok_istore_n (j := 3) X (by decide +kernel) rfl rfl) (
    okc (ok_iload_n (j := 3) X (by decide +kernel) rfl rfl) (
    okc (ok_aload_n (j := 0) X (by decide +kernel) rfl rfl) (
    okc (ok_getI (ci := 9) (kf := 0) (idx := 33) (C := RX9) (T := TX9) (N := 8) X rfl (by decide) inX9 (by decide) wf_X9_33 (fun _ _ _ => rfl) (by decide +kernel) rfl) (
    okc (ok_cge (off := 26) X (by decide +kernel) (by decide) rfl) (
    okc (ok_aload_n (j := 1) X (by decide +kernel) rfl rfl) (
    okc (ok_getR (ci := 2) (kf := 0) (idx := 57) (C := RX2) (T := TX2) (N := 4) X rfl (by decide) inX2 (by decide) wf_X9_57 (fun _ _ _ => rfl) (by decide +kernel) rfl) (
    okc (ok_iload_n (j := 3) X (by decide +kernel) rfl rfl) (
    okc (ok_iald X (by decide +kernel) rfl) (
    okc (ok_aload_n (j := 1) X (by decide +kernel) rfl rfl) (
    okc (ok_getR (ci := 2) (kf := 0) (idx := 57) (C := RX2) (T := TX2) (N := 4) X rfl (by decide) inX2 (by decide) wf_X9_57 (fun _ _ _ => rfl) (by decide +kernel) rfl) (
    okc (ok_iload_n (j := 2) X (by decide +kernel) rfl rfl) (
    okc (ok_iald X (by decide +kernel) rfl) (
    okc (ok_cle (off := 5) X (by decide +kernel) (by decide) rfl) (
    okc (ok_iload_n (j := 3) X (by decide +kernel) rfl rfl) (
    okc (ok_istore_n (j := 2) X (by decide +kernel) rfl rfl) (
    okc (ok_iinc (n := 1) X (by decide +kernel) rfl rfl) (
    okc (ok_goto (off := -28) X (by decide +kernel) (by decide)) (
    okc (ok_iload_n (j := 2) X (by decide +kernel) rfl rfl) (
    okc (ok_iret hret (by decide +kernel)) (
    okn)))))))))))))))))))))))
noncomputable def es_X9_commander  : List (Nat × En) := []
noncomputable def ka_X9_commander_4 (d : Nat)  (n : Nat) : Kn SS (Int32 × SS) := fun pc ls st s => bif Nat.beq pc 4 then (match ls, st with
    | [some y0, some y1, some (.int x2), some (.int x3)], [] => (gd (veq y0 (.ref 1)) (gd (veq y1 (.ref d)) (F_X9_commander_4 d n x2 x3 s)))
    | _, _ => none) else (none)
set_option maxRecDepth 100000 in
set_option maxHeartbeats 4000000 in
theorem eq_X9_commander_4 (d : Nat)  (hd : (Nat.beq d 7 || Nat.beq d 30 || Nat.beq d 35) = true) (n : Nat) (x2 : Int32) (x3 : Int32) (s : SS) : ex (tb_X9_commander (calE (es_X9_commander))) rI [4] (ka_X9_commander_4 d  n) 25 4 [some (.ref 1), some (.ref d), some (.int x2), some (.int x3)] [] s = F_X9_commander_4 d  (n + 1) x2 x3 s := by
  rcases beq3 hd with rfl | rfl | rfl <;> rfl
set_option maxRecDepth 100000 in
set_option maxHeartbeats 4000000 in
theorem gd_X9_commander_4 {ad0 : Nat → Nat} {G : Gm} {A : Nat → Prop} {p : Program} {l : Launch} {e : Env} {R : Room} {s0 : State} {m : MethodId} {args : Array Value} {below : List Frame} {meth : Method} {c : Code} {Q : State → Prop} {r : (Int32 × SS)} {d : Nat}  (hT : ∀ q ∈ tb_X9_commander (calE (es_X9_commander)), OKi G A 4 113 6344 ad0 p l e R s0 m args below meth c Q opsS rI r q.1 q.2)  (hd : (Nat.beq d 7 || Nat.beq d 30 || Nat.beq d 35) = true) : ∀ (n : Nat) (x2 : Int32) (x3 : Int32) (s : SS), F_X9_commander_4 d  n x2 x3 s = some r → Gd G A 4 113 6344 ad0 p l e R s0 m args below meth c Q opsS 4 [some (.ref 1), some (.ref d), some (.int x2), some (.int x3)] [] s := by
  intro n
  induction n with
  | zero =>
    intro x2 x3 s hh
    exact absurd (show (none : Option (Int32 × SS)) = some r from hh) (by simp)
  | succ n ih =>
    intro x2 x3 s hh
    rw [← eq_X9_commander_4 d  hd n x2 x3 s] at hh
    refine ex_good hT (fun pc' ls' st' x' hh => ?_) 25 4 _ [] s hh
    unfold ka_X9_commander_4 at hh
    cases hb : Nat.beq pc' 4 with
    | true =>
      rw [hb] at hh
      have e9 := beq1 hb
      subst e9
      simp only [cond_true] at hh
      split at hh
      · obtain ⟨g0, hh1⟩ := gd_some hh
        have e0 := veq_of g0
        subst e0
        obtain ⟨g1, hh2⟩ := gd_some hh1
        have e1 := veq_of g1
        subst e1
        exact Gd.wk (ih _ _ _ hh2) (Lle.eq (Lle.eq (Lle.eq (Lle.eq Lle.nil))))
      · cases hh
    | false =>
      rw [hb] at hh
      simp only [cond_false] at hh
      cases hh

noncomputable def ka_X9_commander (d : Nat) : Kn SS (Int32 × SS) := fun pc ls st s => bif Nat.beq pc 4 then (match ls, st with
    | [some y0, some y1, some (.int x2), some (.int x3)], [] => (gd (veq y0 (.ref 1)) (gd (veq y1 (.ref d)) (F_X9_commander_4 d fuel0 x2 x3 s)))
    | _, _ => none) else (none)
set_option maxRecDepth 100000 in
set_option maxHeartbeats 4000000 in
theorem eq_X9_commander (d : Nat) (hd : (Nat.beq d 7 || Nat.beq d 30 || Nat.beq d 35) = true)  (s : SS) : ex (tb_X9_commander (calE (es_X9_commander))) rI [4] (ka_X9_commander d) 25 0 [some (.ref 1), some (.ref d), none, none] [] s = f_X9_commander d s := by
  rcases beq3 hd with rfl | rfl | rfl <;> rfl
set_option maxRecDepth 100000 in
set_option maxHeartbeats 4000000 in
theorem run_X9_commander {l : Launch} {G : Gm} {d : Nat} (hd : (Nat.beq d 7 || Nat.beq d 30 || Nat.beq d 35) = true)  (s : SS) (q : (Int32 × SS)) (h : f_X9_commander d s = some q) (D' : Nat) (hD : 0 ≤ D') : RunsM l G (D' + 1) (md 87) (embS s) [.ref 1, .ref d] (some (.int q.1)) (embS q.2) := by
  rw [md_X9_commander]
  refine runs_I (plainFor_of_name (by decide +kernel)) (Nat.le_of_ble_eq_true rfl) rfl ?_
  intro A p e R s0 m args below meth c Q ad0 hR X hret
  have X : Cx G A RX9 cX9_commander 4 p s0 m args c := X
  have hT := tk_X9_commander X (calE_ok (es := es_X9_commander) (enn)) (rmD rfl hR) hret
  rw [← eq_X9_commander d hd  s] at h
  refine ex_good hT (fun pc' ls' st' x' hh => ?_) 25 0 _ [] s h
  unfold ka_X9_commander at hh
  cases hb : Nat.beq pc' 4 with
  | true =>
    rw [hb] at hh
    have e9 := beq1 hb
    subst e9
    simp only [cond_true] at hh
    split at hh
    · obtain ⟨g0, hh1⟩ := gd_some hh
      have e0 := veq_of g0
      subst e0
      obtain ⟨g1, hh2⟩ := gd_some hh1
      have e1 := veq_of g1
      subst e1
      exact Gd.wk (gd_X9_commander_4 hT hd _ _ _ _ hh2) (Lle.eq (Lle.eq (Lle.eq (Lle.eq Lle.nil))))
    · cases hh
  | false =>
    rw [hb] at hh
    simp only [cond_false] at hh
    cases hh

noncomputable def en_X9_commander  : En := fun _ av s k => match av with
  | [.ref r0, .ref d] => (gd (Nat.beq r0 1) (gd (Nat.beq d 7 || Nat.beq d 30 || Nat.beq d 35) (bI (f_X9_commander d s) k)))
  | _ => none
set_option maxRecDepth 100000 in
set_option maxHeartbeats 4000000 in
theorem en_X9_commander_ok {l : Launch} {G : Gm} (D : Nat) (hD : 1 ≤ D) : enOK l G D 87 en_X9_commander := by
  intro ρ av x k r h
  unfold en_X9_commander at h
  split at h
  · obtain ⟨g0, h⟩ := gd_some h
    obtain ⟨g1, h⟩ := gd_some h
    obtain ⟨q, h1, h2⟩ := bind_of h
    have e0 := beq1 g0
    subst e0
    obtain ⟨D', rfl⟩ : ∃ D', D = D' + 1 := ⟨D - 1, by omega⟩
    exact ⟨_, _, h2, run_X9_commander g1  _ _ h1 D' (by omega)⟩
  · cases h

/-! HatRank$Town joined -/
noncomputable def tb_X9_joined (cal : Cal SS) : List (Nat × Ins SS) := [(0, e_aload 0 1), (1, e_iload 1 2), (2, e_callV opsS cal 78 1 9 5), (5, e_ifeq 33 8), (8, e_aload 0 9), (9, e_iload 2 10), (10, e_callV opsS cal 78 1 9 13), (13, e_ifeq 33 16), (16, e_aload 0 17), (17, e_getR opsS 9 7 20), (20, e_iload 1 21), (21, e_ald opsS 100 22), (22, e_iload 2 23), (23, e_bin aShr 24), (24, e_iconst (1) 25), (25, e_bin aAnd 26), (26, e_ifeq 33 29), (29, e_iconst (1) 30), (30, e_goto 34), (33, e_iconst (0) 34), (34, e_zret)]
set_option maxRecDepth 100000 in
set_option maxHeartbeats 4000000 in
theorem tk_X9_joined {ad0 : Nat → Nat} {G : Gm} {A : Nat → Prop} {p : Program} {l : Launch} {e : Env} {R : Room} {s0 : State} {m : MethodId} {args : Array Value} {below : List Frame} {meth : Method} {c : Code} {Q : State → Prop} {ρ : Type} {ret : Option Value → SS → Option ρ} {r : ρ} (X : Cx G A RX9 cX9_joined 3 p s0 m args c) {D' : Nat} {cal : Cal SS} (hcal : calOK l G opsS D' cal) (hRm : ∀ k, k ≤ 21 → D' + 1 ≤ R.frames ∧ 8 + (k + 11) + 40 * D' ≤ R.locals) (hret : RetK G A cX9_joined 113 6344 ad0 p l e R s0 m args below meth c Q opsS ret r .ireturn okZ) : ∀ q ∈ tb_X9_joined cal, OKi G A 3 113 6344 ad0 p l e R s0 m args below meth c Q opsS ret r q.1 q.2 :=
    okc (ok_aload_n (j := 0) X (by decide +kernel) rfl rfl) (
    okc (ok_iload_n (j := 1) X (by decide +kernel) rfl rfl) (
    okc (ok_callV (ci := 9) (C := RX9) (T := TX9) (N := 8) (Y := (yX9_hasPlace, cX9_hasPlace, 2, (some .boolean))) X hcal opsS_n md_X9_hasPlace rfl (by decide) rfl wc_X9_hasPlace wl_X9_40 wi_X9 wm_X9_hasPlace wv_X9_hasPlace (by decide +kernel) (hRm 2 (by decide)) (by decide +kernel) rfl) (
    okc (ok_ifeq (off := 28) X (by decide +kernel) (by decide) rfl) (
    okc (ok_aload_n (j := 0) X (by decide +kernel) rfl rfl) (
    okc (ok_iload_n (j := 2) X (by decide +kernel) rfl rfl) (
    okc (ok_callV (ci := 9) (C := RX9) (T := TX9) (N := 8) (Y := (yX9_hasPlace, cX9_hasPlace, 2, (some .boolean))) X hcal opsS_n md_X9_hasPlace rfl (by decide) rfl wc_X9_hasPlace wl_X9_40 wi_X9 wm_X9_hasPlace wv_X9_hasPlace (by decide +kernel) (hRm 2 (by decide)) (by decide +kernel) rfl) (
    okc (ok_ifeq (off := 20) X (by decide +kernel) (by decide) rfl) (
    okc (ok_aload_n (j := 0) X (by decide +kernel) rfl rfl) (
    okc (ok_getR (ci := 9) (kf := 7) (idx := 24) (C := RX9) (T := TX9) (N := 8) X rfl (by decide) inX9 (by decide) wf_X9_24 (fun _ _ _ => rfl) (by decide +kernel) rfl) (
    okc (ok_iload_n (j := 1) X (by decide +kernel) rfl rfl) (
    okc (ok_iald X (by decide +kernel) rfl) (
    okc (ok_iload_n (j := 2) X (by decide +kernel) rfl rfl) (
    okc (ok_ishr X (by decide +kernel) rfl) (
    okc (ok_iconst (n := 1) X (by decide +kernel) rfl rfl) (
    okc (ok_iand X (by decide +kernel) rfl) (
    okc (ok_ifeq (off := 7) X (by decide +kernel) (by decide) rfl) (
    okc (ok_iconst (n := 1) X (by decide +kernel) rfl rfl) (
    okc (ok_goto (off := 4) X (by decide +kernel) (by decide)) (
    okc (ok_iconst (n := 0) X (by decide +kernel) rfl rfl) (
    okc (ok_zret hret (by decide +kernel)) (
    okn)))))))))))))))))))))
noncomputable def es_X9_joined  : List (Nat × En) := [(78, en_X9_hasPlace)]
set_option maxRecDepth 100000 in
set_option maxHeartbeats 4000000 in
theorem eq_X9_joined   (a0 : Int32) (a1 : Int32) (s : SS) : ex (tb_X9_joined (calE (es_X9_joined))) rI [] (fun _ _ _ _ => none) 23 0 [some (.ref 1), some (.int a0), some (.int a1)] [] s = f_X9_joined a0 a1 s := by
  rfl
set_option maxRecDepth 100000 in
set_option maxHeartbeats 4000000 in
theorem run_X9_joined {l : Launch} {G : Gm}   (a0 : Int32) (a1 : Int32) (s : SS) (q : (Int32 × SS)) (h : f_X9_joined a0 a1 s = some q) (D' : Nat) (hD : 1 ≤ D') : RunsM l G (D' + 1) (md 81) (embS s) [.ref 1, .int a0, .int a1] (some (.int q.1)) (embS q.2) := by
  rw [md_X9_joined]
  refine runs_Z (plainFor_of_name (by decide +kernel)) (Nat.le_of_ble_eq_true rfl) rfl ?_
  intro A p e R s0 m args below meth c Q ad0 hR X hret
  have X : Cx G A RX9 cX9_joined 3 p s0 m args c := X
  have hT := tk_X9_joined X (calE_ok (es := es_X9_joined) (enc (en_X9_hasPlace_ok _ (by omega)) (enn))) (rmD rfl hR) hret
  rw [← eq_X9_joined   a0 a1 s] at h
  refine ex_good hT (fun pc' ls' st' x' hh => ?_) 23 0 _ [] s h
  cases hh

noncomputable def en_X9_joined  : En := fun _ av s k => match av with
  | [.ref r0, .int a0, .int a1] => (gd (Nat.beq r0 1) (bI (f_X9_joined a0 a1 s) k))
  | _ => none
set_option maxRecDepth 100000 in
set_option maxHeartbeats 4000000 in
theorem en_X9_joined_ok {l : Launch} {G : Gm} (D : Nat) (hD : 2 ≤ D) : enOK l G D 81 en_X9_joined := by
  intro ρ av x k r h
  unfold en_X9_joined at h
  split at h
  · obtain ⟨g0, h⟩ := gd_some h
    obtain ⟨q, h1, h2⟩ := bind_of h
    have e0 := beq1 g0
    subst e0
    obtain ⟨D', rfl⟩ : ∃ D', D = D' + 1 := ⟨D - 1, by omega⟩
    exact ⟨_, _, h2, run_X9_joined  _ _ _ _ h1 D' (by omega)⟩
  · cases h

/-! HatRank$Town hasPerson -/
noncomputable def tb_X9_hasPerson (cal : Cal SS) : List (Nat × Ins SS) := [(0, e_iload 1 1), (1, e_iflt 16 4), (4, e_iload 1 5), (5, e_aload 0 6), (6, e_getI opsS 9 0 9), (9, e_cge 16 12), (12, e_iconst (1) 13), (13, e_goto 17), (16, e_iconst (0) 17), (17, e_zret)]
set_option maxRecDepth 100000 in
set_option maxHeartbeats 4000000 in
theorem tk_X9_hasPerson {ad0 : Nat → Nat} {G : Gm} {A : Nat → Prop} {p : Program} {l : Launch} {e : Env} {R : Room} {s0 : State} {m : MethodId} {args : Array Value} {below : List Frame} {meth : Method} {c : Code} {Q : State → Prop} {ρ : Type} {ret : Option Value → SS → Option ρ} {r : ρ} (X : Cx G A RX9 cX9_hasPerson 2 p s0 m args c) {D' : Nat} {cal : Cal SS} (hcal : calOK l G opsS D' cal) (hRm : ∀ k, k ≤ 21 → D' + 1 ≤ R.frames ∧ 8 + (k + 11) + 40 * D' ≤ R.locals) (hret : RetK G A cX9_hasPerson 113 6344 ad0 p l e R s0 m args below meth c Q opsS ret r .ireturn okZ) : ∀ q ∈ tb_X9_hasPerson cal, OKi G A 2 113 6344 ad0 p l e R s0 m args below meth c Q opsS ret r q.1 q.2 :=
    okc (ok_iload_n (j := 1) X (by decide +kernel) rfl rfl) (
    okc (ok_iflt (off := 15) X (by decide +kernel) (by decide) rfl) (
    okc (ok_iload_n (j := 1) X (by decide +kernel) rfl rfl) (
    okc (ok_aload_n (j := 0) X (by decide +kernel) rfl rfl) (
    okc (ok_getI (ci := 9) (kf := 0) (idx := 33) (C := RX9) (T := TX9) (N := 8) X rfl (by decide) inX9 (by decide) wf_X9_33 (fun _ _ _ => rfl) (by decide +kernel) rfl) (
    okc (ok_cge (off := 7) X (by decide +kernel) (by decide) rfl) (
    okc (ok_iconst (n := 1) X (by decide +kernel) rfl rfl) (
    okc (ok_goto (off := 4) X (by decide +kernel) (by decide)) (
    okc (ok_iconst (n := 0) X (by decide +kernel) rfl rfl) (
    okc (ok_zret hret (by decide +kernel)) (
    okn))))))))))
noncomputable def es_X9_hasPerson  : List (Nat × En) := []
set_option maxRecDepth 100000 in
set_option maxHeartbeats 4000000 in
theorem eq_X9_hasPerson   (a0 : Int32) (s : SS) : ex (tb_X9_hasPerson (calE (es_X9_hasPerson))) rI [] (fun _ _ _ _ => none) 12 0 [some (.ref 1), some (.int a0)] [] s = f_X9_hasPerson a0 s := by
  rfl
set_option maxRecDepth 100000 in
set_option maxHeartbeats 4000000 in
theorem run_X9_hasPerson {l : Launch} {G : Gm}   (a0 : Int32) (s : SS) (q : (Int32 × SS)) (h : f_X9_hasPerson a0 s = some q) (D' : Nat) (hD : 0 ≤ D') : RunsM l G (D' + 1) (md 77) (embS s) [.ref 1, .int a0] (some (.int q.1)) (embS q.2) := by
  rw [md_X9_hasPerson]
  refine runs_Z (plainFor_of_name (by decide +kernel)) (Nat.le_of_ble_eq_true rfl) rfl ?_
  intro A p e R s0 m args below meth c Q ad0 hR X hret
  have X : Cx G A RX9 cX9_hasPerson 2 p s0 m args c := X
  have hT := tk_X9_hasPerson X (calE_ok (es := es_X9_hasPerson) (enn)) (rmD rfl hR) hret
  rw [← eq_X9_hasPerson   a0 s] at h
  refine ex_good hT (fun pc' ls' st' x' hh => ?_) 12 0 _ [] s h
  cases hh

noncomputable def en_X9_hasPerson  : En := fun _ av s k => match av with
  | [.ref r0, .int a0] => (gd (Nat.beq r0 1) (bI (f_X9_hasPerson a0 s) k))
  | _ => none
set_option maxRecDepth 100000 in
set_option maxHeartbeats 4000000 in
theorem en_X9_hasPerson_ok {l : Launch} {G : Gm} (D : Nat) (hD : 1 ≤ D) : enOK l G D 77 en_X9_hasPerson := by
  intro ρ av x k r h
  unfold en_X9_hasPerson at h
  split at h
  · obtain ⟨g0, h⟩ := gd_some h
    obtain ⟨q, h1, h2⟩ := bind_of h
    have e0 := beq1 g0
    subst e0
    obtain ⟨D', rfl⟩ : ∃ D', D = D' + 1 := ⟨D - 1, by omega⟩
    exact ⟨_, _, h2, run_X9_hasPerson  _ _ _ h1 D' (by omega)⟩
  · cases h

/-! HatRank$Town addPlace -/
noncomputable def tb_X9_addPlace (cal : Cal SS) : List (Nat × Ins SS) := [(0, e_aload 0 1), (1, e_getI opsS 9 1 4), (4, e_iconst (7) 6), (6, e_clt 12 9), (9, e_iconst (-3) 11), (11, e_iret), (12, e_aload 0 13), (13, e_getR opsS 9 4 16), (16, e_aload 0 17), (17, e_getI opsS 9 1 20), (20, e_iload 1 21), (21, e_ast opsS 100 (fun v => v) 22), (22, e_aload 0 23), (23, e_getR opsS 9 5 26), (26, e_aload 0 27), (27, e_getI opsS 9 1 30), (30, e_aload 0 31), (31, e_getI opsS 9 1 34), (34, e_ast opsS 100 (fun v => v) 35), (35, e_aload 0 36), (36, e_dup 37), (37, e_getI opsS 9 1 40), (40, e_iconst (1) 41), (41, e_bin aAdd 42), (42, e_putI opsS 9 1 45), (45, e_aload 0 46), (46, e_getI opsS 9 1 49), (49, e_iconst (1) 50), (50, e_bin aSub 51), (51, e_iret)]
set_option maxRecDepth 100000 in
set_option maxHeartbeats 4000000 in
theorem tk_X9_addPlace {ad0 : Nat → Nat} {G : Gm} {A : Nat → Prop} {p : Program} {l : Launch} {e : Env} {R : Room} {s0 : State} {m : MethodId} {args : Array Value} {below : List Frame} {meth : Method} {c : Code} {Q : State → Prop} {ρ : Type} {ret : Option Value → SS → Option ρ} {r : ρ} (X : Cx G A RX9 cX9_addPlace 2 p s0 m args c) {D' : Nat} {cal : Cal SS} (hcal : calOK l G opsS D' cal) (hRm : ∀ k, k ≤ 21 → D' + 1 ≤ R.frames ∧ 8 + (k + 11) + 40 * D' ≤ R.locals) (hret : RetK G A cX9_addPlace 113 6344 ad0 p l e R s0 m args below meth c Q opsS ret r .ireturn okI) : ∀ q ∈ tb_X9_addPlace cal, OKi G A 2 113 6344 ad0 p l e R s0 m args below meth c Q opsS ret r q.1 q.2 :=
    okc (ok_aload_n (j := 0) X (by decide +kernel) rfl rfl) (
    okc (ok_getI (ci := 9) (kf := 1) (idx := 37) (C := RX9) (T := TX9) (N := 8) X rfl (by decide) inX9 (by decide) wf_X9_37 (fun _ _ _ => rfl) (by decide +kernel) rfl) (
    okc (ok_bipush (n := 7) X (by decide +kernel) rfl rfl) (
    okc (ok_clt (off := 6) X (by decide +kernel) (by decide) rfl) (
    okc (ok_bipush (n := -3) X (by decide +kernel) rfl rfl) (
    okc (ok_iret hret (by decide +kernel)) (
    okc (ok_aload_n (j := 0) X (by decide +kernel) rfl rfl) (
    okc (ok_getR (ci := 9) (kf := 4) (idx := 15) (C := RX9) (T := TX9) (N := 8) X rfl (by decide) inX9 (by decide) wf_X9_15 (fun _ _ _ => rfl) (by decide +kernel) rfl) (
    okc (ok_aload_n (j := 0) X (by decide +kernel) rfl rfl) (
    okc (ok_getI (ci := 9) (kf := 1) (idx := 37) (C := RX9) (T := TX9) (N := 8) X rfl (by decide) inX9 (by decide) wf_X9_37 (fun _ _ _ => rfl) (by decide +kernel) rfl) (
    okc (ok_iload_n (j := 1) X (by decide +kernel) rfl rfl) (
    okc (ok_iast X opsS_ok (by decide +kernel) rfl) (
    okc (ok_aload_n (j := 0) X (by decide +kernel) rfl rfl) (
    okc (ok_getR (ci := 9) (kf := 5) (idx := 18) (C := RX9) (T := TX9) (N := 8) X rfl (by decide) inX9 (by decide) wf_X9_18 (fun _ _ _ => rfl) (by decide +kernel) rfl) (
    okc (ok_aload_n (j := 0) X (by decide +kernel) rfl rfl) (
    okc (ok_getI (ci := 9) (kf := 1) (idx := 37) (C := RX9) (T := TX9) (N := 8) X rfl (by decide) inX9 (by decide) wf_X9_37 (fun _ _ _ => rfl) (by decide +kernel) rfl) (
    okc (ok_aload_n (j := 0) X (by decide +kernel) rfl rfl) (
    okc (ok_getI (ci := 9) (kf := 1) (idx := 37) (C := RX9) (T := TX9) (N := 8) X rfl (by decide) inX9 (by decide) wf_X9_37 (fun _ _ _ => rfl) (by decide +kernel) rfl) (
    okc (ok_iast X opsS_ok (by decide +kernel) rfl) (
    okc (ok_aload_n (j := 0) X (by decide +kernel) rfl rfl) (
    okc (ok_dup X (by decide +kernel) rfl) (
    okc (ok_getI (ci := 9) (kf := 1) (idx := 37) (C := RX9) (T := TX9) (N := 8) X rfl (by decide) inX9 (by decide) wf_X9_37 (fun _ _ _ => rfl) (by decide +kernel) rfl) (
    okc (ok_iconst (n := 1) X (by decide +kernel) rfl rfl) (
    okc (ok_iadd X (by decide +kernel) rfl) (
    okc (ok_putI (ci := 9) (kf := 1) (idx := 37) (C := RX9) (T := TX9) (N := 8) X opsS_ok rfl (by decide) inX9 tyX9_ok nmX9 (by decide) wf_X9_37 rfl (fun _ _ _ => rfl) (by decide +kernel) (by decide +kernel) rfl) (
    okc (ok_aload_n (j := 0) X (by decide +kernel) rfl rfl) (
    okc (ok_getI (ci := 9) (kf := 1) (idx := 37) (C := RX9) (T := TX9) (N := 8) X rfl (by decide) inX9 (by decide) wf_X9_37 (fun _ _ _ => rfl) (by decide +kernel) rfl) (
    okc (ok_iconst (n := 1) X (by decide +kernel) rfl rfl) (
    okc (ok_isub X (by decide +kernel) rfl) (
    okc (ok_iret hret (by decide +kernel)) (
    okn))))))))))))))))))))))))))))))
noncomputable def es_X9_addPlace  : List (Nat × En) := []
set_option maxRecDepth 100000 in
set_option maxHeartbeats 4000000 in
theorem eq_X9_addPlace   (a0 : Int32) (s : SS) : ex (tb_X9_addPlace (calE (es_X9_addPlace))) rI [] (fun _ _ _ _ => none) 32 0 [some (.ref 1), some (.int a0)] [] s = f_X9_addPlace a0 s := by
  rfl
set_option maxRecDepth 100000 in
set_option maxHeartbeats 4000000 in
theorem run_X9_addPlace {l : Launch} {G : Gm}   (a0 : Int32) (s : SS) (q : (Int32 × SS)) (h : f_X9_addPlace a0 s = some q) (D' : Nat) (hD : 0 ≤ D') : RunsM l G (D' + 1) (md 79) (embS s) [.ref 1, .int a0] (some (.int q.1)) (embS q.2) := by
  rw [md_X9_addPlace]
  refine runs_I (plainFor_of_name (by decide +kernel)) (Nat.le_of_ble_eq_true rfl) rfl ?_
  intro A p e R s0 m args below meth c Q ad0 hR X hret
  have X : Cx G A RX9 cX9_addPlace 2 p s0 m args c := X
  have hT := tk_X9_addPlace X (calE_ok (es := es_X9_addPlace) (enn)) (rmD rfl hR) hret
  rw [← eq_X9_addPlace   a0 s] at h
  refine ex_good hT (fun pc' ls' st' x' hh => ?_) 32 0 _ [] s h
  cases hh

noncomputable def en_X9_addPlace  : En := fun _ av s k => match av with
  | [.ref r0, .int a0] => (gd (Nat.beq r0 1) (bI (f_X9_addPlace a0 s) k))
  | _ => none
set_option maxRecDepth 100000 in
set_option maxHeartbeats 4000000 in
theorem en_X9_addPlace_ok {l : Launch} {G : Gm} (D : Nat) (hD : 1 ≤ D) : enOK l G D 79 en_X9_addPlace := by
  intro ρ av x k r h
  unfold en_X9_addPlace at h
  split at h
  · obtain ⟨g0, h⟩ := gd_some h
    obtain ⟨q, h1, h2⟩ := bind_of h
    have e0 := beq1 g0
    subst e0
    obtain ⟨D', rfl⟩ : ∃ D', D = D' + 1 := ⟨D - 1, by omega⟩
    exact ⟨_, _, h2, run_X9_addPlace  _ _ _ h1 D' (by omega)⟩
  · cases h

/-! HatRank$Town addPerson -/
noncomputable def tb_X9_addPerson (cal : Cal SS) : List (Nat × Ins SS) := [(0, e_aload 0 1), (1, e_getI opsS 9 0 4), (4, e_iconst (6) 6), (6, e_clt 12 9), (9, e_iconst (-3) 11), (11, e_iret), (12, e_aload 0 13), (13, e_getR opsS 9 3 16), (16, e_aload 0 17), (17, e_getI opsS 9 0 20), (20, e_iload 1 21), (21, e_ast opsS 100 (fun v => v) 22), (22, e_aload 0 23), (23, e_dup 24), (24, e_getI opsS 9 0 27), (27, e_iconst (1) 28), (28, e_bin aAdd 29), (29, e_putI opsS 9 0 32), (32, e_aload 0 33), (33, e_getI opsS 9 0 36), (36, e_iconst (1) 37), (37, e_bin aSub 38), (38, e_iret)]
set_option maxRecDepth 100000 in
set_option maxHeartbeats 4000000 in
theorem tk_X9_addPerson {ad0 : Nat → Nat} {G : Gm} {A : Nat → Prop} {p : Program} {l : Launch} {e : Env} {R : Room} {s0 : State} {m : MethodId} {args : Array Value} {below : List Frame} {meth : Method} {c : Code} {Q : State → Prop} {ρ : Type} {ret : Option Value → SS → Option ρ} {r : ρ} (X : Cx G A RX9 cX9_addPerson 2 p s0 m args c) {D' : Nat} {cal : Cal SS} (hcal : calOK l G opsS D' cal) (hRm : ∀ k, k ≤ 21 → D' + 1 ≤ R.frames ∧ 8 + (k + 11) + 40 * D' ≤ R.locals) (hret : RetK G A cX9_addPerson 113 6344 ad0 p l e R s0 m args below meth c Q opsS ret r .ireturn okI) : ∀ q ∈ tb_X9_addPerson cal, OKi G A 2 113 6344 ad0 p l e R s0 m args below meth c Q opsS ret r q.1 q.2 :=
    okc (ok_aload_n (j := 0) X (by decide +kernel) rfl rfl) (
    okc (ok_getI (ci := 9) (kf := 0) (idx := 33) (C := RX9) (T := TX9) (N := 8) X rfl (by decide) inX9 (by decide) wf_X9_33 (fun _ _ _ => rfl) (by decide +kernel) rfl) (
    okc (ok_bipush (n := 6) X (by decide +kernel) rfl rfl) (
    okc (ok_clt (off := 6) X (by decide +kernel) (by decide) rfl) (
    okc (ok_bipush (n := -3) X (by decide +kernel) rfl rfl) (
    okc (ok_iret hret (by decide +kernel)) (
    okc (ok_aload_n (j := 0) X (by decide +kernel) rfl rfl) (
    okc (ok_getR (ci := 9) (kf := 3) (idx := 9) (C := RX9) (T := TX9) (N := 8) X rfl (by decide) inX9 (by decide) wf_X9_9 (fun _ _ _ => rfl) (by decide +kernel) rfl) (
    okc (ok_aload_n (j := 0) X (by decide +kernel) rfl rfl) (
    okc (ok_getI (ci := 9) (kf := 0) (idx := 33) (C := RX9) (T := TX9) (N := 8) X rfl (by decide) inX9 (by decide) wf_X9_33 (fun _ _ _ => rfl) (by decide +kernel) rfl) (
    okc (ok_iload_n (j := 1) X (by decide +kernel) rfl rfl) (
    okc (ok_iast X opsS_ok (by decide +kernel) rfl) (
    okc (ok_aload_n (j := 0) X (by decide +kernel) rfl rfl) (
    okc (ok_dup X (by decide +kernel) rfl) (
    okc (ok_getI (ci := 9) (kf := 0) (idx := 33) (C := RX9) (T := TX9) (N := 8) X rfl (by decide) inX9 (by decide) wf_X9_33 (fun _ _ _ => rfl) (by decide +kernel) rfl) (
    okc (ok_iconst (n := 1) X (by decide +kernel) rfl rfl) (
    okc (ok_iadd X (by decide +kernel) rfl) (
    okc (ok_putI (ci := 9) (kf := 0) (idx := 33) (C := RX9) (T := TX9) (N := 8) X opsS_ok rfl (by decide) inX9 tyX9_ok nmX9 (by decide) wf_X9_33 rfl (fun _ _ _ => rfl) (by decide +kernel) (by decide +kernel) rfl) (
    okc (ok_aload_n (j := 0) X (by decide +kernel) rfl rfl) (
    okc (ok_getI (ci := 9) (kf := 0) (idx := 33) (C := RX9) (T := TX9) (N := 8) X rfl (by decide) inX9 (by decide) wf_X9_33 (fun _ _ _ => rfl) (by decide +kernel) rfl) (
    okc (ok_iconst (n := 1) X (by decide +kernel) rfl rfl) (
    okc (ok_isub X (by decide +kernel) rfl) (
    okc (ok_iret hret (by decide +kernel)) (
    okn)))))))))))))))))))))))
noncomputable def es_X9_addPerson  : List (Nat × En) := []
set_option maxRecDepth 100000 in
set_option maxHeartbeats 4000000 in
theorem eq_X9_addPerson   (a0 : Int32) (s : SS) : ex (tb_X9_addPerson (calE (es_X9_addPerson))) rI [] (fun _ _ _ _ => none) 25 0 [some (.ref 1), some (.int a0)] [] s = f_X9_addPerson a0 s := by
  rfl
set_option maxRecDepth 100000 in
set_option maxHeartbeats 4000000 in
theorem run_X9_addPerson {l : Launch} {G : Gm}   (a0 : Int32) (s : SS) (q : (Int32 × SS)) (h : f_X9_addPerson a0 s = some q) (D' : Nat) (hD : 0 ≤ D') : RunsM l G (D' + 1) (md 80) (embS s) [.ref 1, .int a0] (some (.int q.1)) (embS q.2) := by
  rw [md_X9_addPerson]
  refine runs_I (plainFor_of_name (by decide +kernel)) (Nat.le_of_ble_eq_true rfl) rfl ?_
  intro A p e R s0 m args below meth c Q ad0 hR X hret
  have X : Cx G A RX9 cX9_addPerson 2 p s0 m args c := X
  have hT := tk_X9_addPerson X (calE_ok (es := es_X9_addPerson) (enn)) (rmD rfl hR) hret
  rw [← eq_X9_addPerson   a0 s] at h
  refine ex_good hT (fun pc' ls' st' x' hh => ?_) 25 0 _ [] s h
  cases hh

noncomputable def en_X9_addPerson  : En := fun _ av s k => match av with
  | [.ref r0, .int a0] => (gd (Nat.beq r0 1) (bI (f_X9_addPerson a0 s) k))
  | _ => none
set_option maxRecDepth 100000 in
set_option maxHeartbeats 4000000 in
theorem en_X9_addPerson_ok {l : Launch} {G : Gm} (D : Nat) (hD : 1 ≤ D) : enOK l G D 80 en_X9_addPerson := by
  intro ρ av x k r h
  unfold en_X9_addPerson at h
  split at h
  · obtain ⟨g0, h⟩ := gd_some h
    obtain ⟨q, h1, h2⟩ := bind_of h
    have e0 := beq1 g0
    subst e0
    obtain ⟨D', rfl⟩ : ∃ D', D = D' + 1 := ⟨D - 1, by omega⟩
    exact ⟨_, _, h2, run_X9_addPerson  _ _ _ h1 D' (by omega)⟩
  · cases h

/-! HatRank$Town addWay -/
noncomputable def tb_X9_addWay (cal : Cal SS) : List (Nat × Ins SS) := [(0, e_aload 0 1), (1, e_getI opsS 9 2 4), (4, e_iconst (12) 6), (6, e_clt 12 9), (9, e_iconst (-3) 11), (11, e_iret), (12, e_aload 0 13), (13, e_getR opsS 9 7 16), (16, e_iload 1 17), (17, e_dup2 18), (18, e_ald opsS 100 19), (19, e_iconst (1) 20), (20, e_iload 2 21), (21, e_bin aShl 22), (22, e_bin aOr 23), (23, e_ast opsS 100 (fun v => v) 24), (24, e_aload 0 25), (25, e_getR opsS 9 7 28), (28, e_iload 2 29), (29, e_dup2 30), (30, e_ald opsS 100 31), (31, e_iconst (1) 32), (32, e_iload 1 33), (33, e_bin aShl 34), (34, e_bin aOr 35), (35, e_ast opsS 100 (fun v => v) 36), (36, e_aload 0 37), (37, e_dup 38), (38, e_getI opsS 9 2 41), (41, e_iconst (1) 42), (42, e_bin aAdd 43), (43, e_putI opsS 9 2 46), (46, e_aload 0 47), (47, e_getI opsS 9 2 50), (50, e_iret)]
set_option maxRecDepth 100000 in
set_option maxHeartbeats 4000000 in
theorem tk_X9_addWay {ad0 : Nat → Nat} {G : Gm} {A : Nat → Prop} {p : Program} {l : Launch} {e : Env} {R : Room} {s0 : State} {m : MethodId} {args : Array Value} {below : List Frame} {meth : Method} {c : Code} {Q : State → Prop} {ρ : Type} {ret : Option Value → SS → Option ρ} {r : ρ} (X : Cx G A RX9 cX9_addWay 3 p s0 m args c) {D' : Nat} {cal : Cal SS} (hcal : calOK l G opsS D' cal) (hRm : ∀ k, k ≤ 21 → D' + 1 ≤ R.frames ∧ 8 + (k + 11) + 40 * D' ≤ R.locals) (hret : RetK G A cX9_addWay 113 6344 ad0 p l e R s0 m args below meth c Q opsS ret r .ireturn okI) : ∀ q ∈ tb_X9_addWay cal, OKi G A 3 113 6344 ad0 p l e R s0 m args below meth c Q opsS ret r q.1 q.2 :=
    okc (ok_aload_n (j := 0) X (by decide +kernel) rfl rfl) (
    okc (ok_getI (ci := 9) (kf := 2) (idx := 44) (C := RX9) (T := TX9) (N := 8) X rfl (by decide) inX9 (by decide) wf_X9_44 (fun _ _ _ => rfl) (by decide +kernel) rfl) (
    okc (ok_bipush (n := 12) X (by decide +kernel) rfl rfl) (
    okc (ok_clt (off := 6) X (by decide +kernel) (by decide) rfl) (
    okc (ok_bipush (n := -3) X (by decide +kernel) rfl rfl) (
    okc (ok_iret hret (by decide +kernel)) (
    okc (ok_aload_n (j := 0) X (by decide +kernel) rfl rfl) (
    okc (ok_getR (ci := 9) (kf := 7) (idx := 24) (C := RX9) (T := TX9) (N := 8) X rfl (by decide) inX9 (by decide) wf_X9_24 (fun _ _ _ => rfl) (by decide +kernel) rfl) (
    okc (ok_iload_n (j := 1) X (by decide +kernel) rfl rfl) (
    okc (ok_dup2 X (by decide +kernel) rfl) (
    okc (ok_iald X (by decide +kernel) rfl) (
    okc (ok_iconst (n := 1) X (by decide +kernel) rfl rfl) (
    okc (ok_iload_n (j := 2) X (by decide +kernel) rfl rfl) (
    okc (ok_ishl X (by decide +kernel) rfl) (
    okc (ok_ior X (by decide +kernel) rfl) (
    okc (ok_iast X opsS_ok (by decide +kernel) rfl) (
    okc (ok_aload_n (j := 0) X (by decide +kernel) rfl rfl) (
    okc (ok_getR (ci := 9) (kf := 7) (idx := 24) (C := RX9) (T := TX9) (N := 8) X rfl (by decide) inX9 (by decide) wf_X9_24 (fun _ _ _ => rfl) (by decide +kernel) rfl) (
    okc (ok_iload_n (j := 2) X (by decide +kernel) rfl rfl) (
    okc (ok_dup2 X (by decide +kernel) rfl) (
    okc (ok_iald X (by decide +kernel) rfl) (
    okc (ok_iconst (n := 1) X (by decide +kernel) rfl rfl) (
    okc (ok_iload_n (j := 1) X (by decide +kernel) rfl rfl) (
    okc (ok_ishl X (by decide +kernel) rfl) (
    okc (ok_ior X (by decide +kernel) rfl) (
    okc (ok_iast X opsS_ok (by decide +kernel) rfl) (
    okc (ok_aload_n (j := 0) X (by decide +kernel) rfl rfl) (
    okc (ok_dup X (by decide +kernel) rfl) (
    okc (ok_getI (ci := 9) (kf := 2) (idx := 44) (C := RX9) (T := TX9) (N := 8) X rfl (by decide) inX9 (by decide) wf_X9_44 (fun _ _ _ => rfl) (by decide +kernel) rfl) (
    okc (ok_iconst (n := 1) X (by decide +kernel) rfl rfl) (
    okc (ok_iadd X (by decide +kernel) rfl) (
    okc (ok_putI (ci := 9) (kf := 2) (idx := 44) (C := RX9) (T := TX9) (N := 8) X opsS_ok rfl (by decide) inX9 tyX9_ok nmX9 (by decide) wf_X9_44 rfl (fun _ _ _ => rfl) (by decide +kernel) (by decide +kernel) rfl) (
    okc (ok_aload_n (j := 0) X (by decide +kernel) rfl rfl) (
    okc (ok_getI (ci := 9) (kf := 2) (idx := 44) (C := RX9) (T := TX9) (N := 8) X rfl (by decide) inX9 (by decide) wf_X9_44 (fun _ _ _ => rfl) (by decide +kernel) rfl) (
    okc (ok_iret hret (by decide +kernel)) (
    okn)))))))))))))))))))))))))))))))))))
noncomputable def es_X9_addWay  : List (Nat × En) := []
set_option maxRecDepth 100000 in
set_option maxHeartbeats 4000000 in
theorem eq_X9_addWay   (a0 : Int32) (a1 : Int32) (s : SS) : ex (tb_X9_addWay (calE (es_X9_addWay))) rI [] (fun _ _ _ _ => none) 37 0 [some (.ref 1), some (.int a0), some (.int a1)] [] s = f_X9_addWay a0 a1 s := by
  rfl
set_option maxRecDepth 100000 in
set_option maxHeartbeats 4000000 in
theorem run_X9_addWay {l : Launch} {G : Gm}   (a0 : Int32) (a1 : Int32) (s : SS) (q : (Int32 × SS)) (h : f_X9_addWay a0 a1 s = some q) (D' : Nat) (hD : 0 ≤ D') : RunsM l G (D' + 1) (md 82) (embS s) [.ref 1, .int a0, .int a1] (some (.int q.1)) (embS q.2) := by
  rw [md_X9_addWay]
  refine runs_I (plainFor_of_name (by decide +kernel)) (Nat.le_of_ble_eq_true rfl) rfl ?_
  intro A p e R s0 m args below meth c Q ad0 hR X hret
  have X : Cx G A RX9 cX9_addWay 3 p s0 m args c := X
  have hT := tk_X9_addWay X (calE_ok (es := es_X9_addWay) (enn)) (rmD rfl hR) hret
  rw [← eq_X9_addWay   a0 a1 s] at h
  refine ex_good hT (fun pc' ls' st' x' hh => ?_) 37 0 _ [] s h
  cases hh

noncomputable def en_X9_addWay  : En := fun _ av s k => match av with
  | [.ref r0, .int a0, .int a1] => (gd (Nat.beq r0 1) (bI (f_X9_addWay a0 a1 s) k))
  | _ => none
set_option maxRecDepth 100000 in
set_option maxHeartbeats 4000000 in
theorem en_X9_addWay_ok {l : Launch} {G : Gm} (D : Nat) (hD : 1 ≤ D) : enOK l G D 82 en_X9_addWay := by
  intro ρ av x k r h
  unfold en_X9_addWay at h
  split at h
  · obtain ⟨g0, h⟩ := gd_some h
    obtain ⟨q, h1, h2⟩ := bind_of h
    have e0 := beq1 g0
    subst e0
    obtain ⟨D', rfl⟩ : ∃ D', D = D' + 1 := ⟨D - 1, by omega⟩
    exact ⟨_, _, h2, run_X9_addWay  _ _ _ _ h1 D' (by omega)⟩
  · cases h

/-! HatRank$Town rank -/
noncomputable def tb_X9_rank (cal : Cal SS) : List (Nat × Ins SS) := [(0, e_iconst (0) 1), (1, e_istore 3 2), (2, e_iconst (0) 3), (3, e_istore 4 5), (5, e_iload 4 7), (7, e_aload 0 8), (8, e_getI opsS 9 0 11), (11, e_cge 61 14), (14, e_aload 1 15), (15, e_getR opsS 2 0 18), (18, e_iload 4 20), (20, e_ald opsS 100 21), (21, e_aload 1 22), (22, e_getR opsS 2 0 25), (25, e_iload 2 26), (26, e_ald opsS 100 27), (27, e_cgt 52 30), (30, e_aload 1 31), (31, e_getR opsS 2 0 34), (34, e_iload 4 36), (36, e_ald opsS 100 37), (37, e_aload 1 38), (38, e_getR opsS 2 0 41), (41, e_iload 2 42), (42, e_ald opsS 100 43), (43, e_cne 55 46), (46, e_iload 4 48), (48, e_iload 2 49), (49, e_cge 55 52), (52, e_iinc 3 (1) 55), (55, e_iinc 4 (1) 58), (58, e_goto 5), (61, e_iload 3 62), (62, e_iret)]
set_option maxRecDepth 100000 in
set_option maxHeartbeats 4000000 in
theorem tk_X9_rank {ad0 : Nat → Nat} {G : Gm} {A : Nat → Prop} {p : Program} {l : Launch} {e : Env} {R : Room} {s0 : State} {m : MethodId} {args : Array Value} {below : List Frame} {meth : Method} {c : Code} {Q : State → Prop} {ρ : Type} {ret : Option Value → SS → Option ρ} {r : ρ} (X : Cx G A RX9 cX9_rank 5 p s0 m args c) {D' : Nat} {cal : Cal SS} (hcal : calOK l G opsS D' cal) (hRm : ∀ k, k ≤ 21 → D' + 1 ≤ R.frames ∧ 8 + (k + 11) + 40 * D' ≤ R.locals) (hret : RetK G A cX9_rank 113 6344 ad0 p l e R s0 m args below meth c Q opsS ret r .ireturn okI) : ∀ q ∈ tb_X9_rank cal, OKi G A 5 113 6344 ad0 p l e R s0 m args below meth c Q opsS ret r q.1 q.2 :=
    okc (ok_iconst (n := 0) X (by decide +kernel) rfl rfl) (
    okc (ok_istore_n (j := 3) X (by decide +kernel) rfl rfl) (
    okc (ok_iconst (n := 0) X (by decide +kernel) rfl rfl) (
    okc (ok_istore X (by decide +kernel) rfl) (
    okc (ok_iload X (by decide +kernel) rfl) (
    okc (ok_aload_n (j := 0) X (by decide +kernel) rfl rfl) (
    okc (ok_getI (ci := 9) (kf := 0) (idx := 33) (C := RX9) (T := TX9) (N := 8) X rfl (by decide) inX9 (by decide) wf_X9_33 (fun _ _ _ => rfl) (by decide +kernel) rfl) (
    okc (ok_cge (off := 50) X (by decide +kernel) (by decide) rfl) (
    okc (ok_aload_n (j := 1) X (by decide +kernel) rfl rfl) (
    okc (ok_getR (ci := 2) (kf := 0) (idx := 57) (C := RX2) (T := TX2) (N := 4) X rfl (by decide) inX2 (by decide) wf_X9_57 (fun _ _ _ => rfl) (by decide +kernel) rfl) (
    okc (ok_iload X (by decide +kernel) rfl) (
    okc (ok_iald X (by decide +kernel) rfl) (
    okc (ok_aload_n (j := 1) X (by decide +kernel) rfl rfl) (
    okc (ok_getR (ci := 2) (kf := 0) (idx := 57) (C := RX2) (T := TX2) (N := 4) X rfl (by decide) inX2 (by decide) wf_X9_57 (fun _ _ _ => rfl) (by decide +kernel) rfl) (
    okc (ok_iload_n (j := 2) X (by decide +kernel) rfl rfl) (
    okc (ok_iald X (by decide +kernel) rfl) (
    okc (ok_cgt (off := 25) X (by decide +kernel) (by decide) rfl) (
    okc (ok_aload_n (j := 1) X (by decide +kernel) rfl rfl) (
    okc (ok_getR (ci := 2) (kf := 0) (idx := 57) (C := RX2) (T := TX2) (N := 4) X rfl (by decide) inX2 (by decide) wf_X9_57 (fun _ _ _ => rfl) (by decide +kernel) rfl) (
    okc (ok_iload X (by decide +kernel) rfl) (
    okc (ok_iald X (by decide +kernel) rfl) (
    okc (ok_aload_n (j := 1) X (by decide +kernel) rfl rfl) (
    okc (ok_getR (ci := 2) (kf := 0) (idx := 57) (C := RX2) (T := TX2) (N := 4) X rfl (by decide) inX2 (by decide) wf_X9_57 (fun _ _ _ => rfl) (by decide +kernel) rfl) (
    okc (ok_iload_n (j := 2) X (by decide +kernel) rfl rfl) (
    okc (ok_iald X (by decide +kernel) rfl) (
    okc (ok_cne (off := 12) X (by decide +kernel) (by decide) rfl) (
    okc (ok_iload X (by decide +kernel) rfl) (
    okc (ok_iload_n (j := 2) X (by decide +kernel) rfl rfl) (
    okc (ok_cge (off := 6) X (by decide +kernel) (by decide) rfl) (
    okc (ok_iinc (n := 1) X (by decide +kernel) rfl rfl) (
    okc (ok_iinc (n := 1) X (by decide +kernel) rfl rfl) (
    okc (ok_goto (off := -53) X (by decide +kernel) (by decide)) (
    okc (ok_iload_n (j := 3) X (by decide +kernel) rfl rfl) (
    okc (ok_iret hret (by decide +kernel)) (
    okn))))))))))))))))))))))))))))))))))
noncomputable def es_X9_rank  : List (Nat × En) := []
noncomputable def ka_X9_rank_5 (d : Nat)  (n : Nat) : Kn SS (Int32 × SS) := fun pc ls st s => bif Nat.beq pc 5 then (match ls, st with
    | [some y0, some y1, some (.int x2), some (.int x3), some (.int x4)], [] => (gd (veq y0 (.ref 1)) (gd (veq y1 (.ref d)) (F_X9_rank_5 d n x2 x3 x4 s)))
    | _, _ => none) else (none)
set_option maxRecDepth 100000 in
set_option maxHeartbeats 4000000 in
theorem eq_X9_rank_5 (d : Nat)  (hd : (Nat.beq d 7) = true) (n : Nat) (x2 : Int32) (x3 : Int32) (x4 : Int32) (s : SS) : ex (tb_X9_rank (calE (es_X9_rank))) rI [5] (ka_X9_rank_5 d  n) 36 5 [some (.ref 1), some (.ref d), some (.int x2), some (.int x3), some (.int x4)] [] s = F_X9_rank_5 d  (n + 1) x2 x3 x4 s := by
  rcases beq1 hd with rfl <;> rfl
set_option maxRecDepth 100000 in
set_option maxHeartbeats 4000000 in
theorem gd_X9_rank_5 {ad0 : Nat → Nat} {G : Gm} {A : Nat → Prop} {p : Program} {l : Launch} {e : Env} {R : Room} {s0 : State} {m : MethodId} {args : Array Value} {below : List Frame} {meth : Method} {c : Code} {Q : State → Prop} {r : (Int32 × SS)} {d : Nat}  (hT : ∀ q ∈ tb_X9_rank (calE (es_X9_rank)), OKi G A 5 113 6344 ad0 p l e R s0 m args below meth c Q opsS rI r q.1 q.2)  (hd : (Nat.beq d 7) = true) : ∀ (n : Nat) (x2 : Int32) (x3 : Int32) (x4 : Int32) (s : SS), F_X9_rank_5 d  n x2 x3 x4 s = some r → Gd G A 5 113 6344 ad0 p l e R s0 m args below meth c Q opsS 5 [some (.ref 1), some (.ref d), some (.int x2), some (.int x3), some (.int x4)] [] s := by
  intro n
  induction n with
  | zero =>
    intro x2 x3 x4 s hh
    exact absurd (show (none : Option (Int32 × SS)) = some r from hh) (by simp)
  | succ n ih =>
    intro x2 x3 x4 s hh
    rw [← eq_X9_rank_5 d  hd n x2 x3 x4 s] at hh
    refine ex_good hT (fun pc' ls' st' x' hh => ?_) 36 5 _ [] s hh
    unfold ka_X9_rank_5 at hh
    cases hb : Nat.beq pc' 5 with
    | true =>
      rw [hb] at hh
      have e9 := beq1 hb
      subst e9
      simp only [cond_true] at hh
      split at hh
      · obtain ⟨g0, hh1⟩ := gd_some hh
        have e0 := veq_of g0
        subst e0
        obtain ⟨g1, hh2⟩ := gd_some hh1
        have e1 := veq_of g1
        subst e1
        exact Gd.wk (ih _ _ _ _ hh2) (Lle.eq (Lle.eq (Lle.eq (Lle.eq (Lle.eq Lle.nil)))))
      · cases hh
    | false =>
      rw [hb] at hh
      simp only [cond_false] at hh
      cases hh

noncomputable def ka_X9_rank (d : Nat) : Kn SS (Int32 × SS) := fun pc ls st s => bif Nat.beq pc 5 then (match ls, st with
    | [some y0, some y1, some (.int x2), some (.int x3), some (.int x4)], [] => (gd (veq y0 (.ref 1)) (gd (veq y1 (.ref d)) (F_X9_rank_5 d fuel0 x2 x3 x4 s)))
    | _, _ => none) else (none)
set_option maxRecDepth 100000 in
set_option maxHeartbeats 4000000 in
theorem eq_X9_rank (d : Nat) (hd : (Nat.beq d 7) = true) (a0 : Int32) (s : SS) : ex (tb_X9_rank (calE (es_X9_rank))) rI [5] (ka_X9_rank d) 36 0 [some (.ref 1), some (.ref d), some (.int a0), none, none] [] s = f_X9_rank d a0 s := by
  rcases beq1 hd with rfl <;> rfl
set_option maxRecDepth 100000 in
set_option maxHeartbeats 4000000 in
theorem run_X9_rank {l : Launch} {G : Gm} {d : Nat} (hd : (Nat.beq d 7) = true) (a0 : Int32) (s : SS) (q : (Int32 × SS)) (h : f_X9_rank d a0 s = some q) (D' : Nat) (hD : 0 ≤ D') : RunsM l G (D' + 1) (md 86) (embS s) [.ref 1, .ref d, .int a0] (some (.int q.1)) (embS q.2) := by
  rw [md_X9_rank]
  refine runs_I (plainFor_of_name (by decide +kernel)) (Nat.le_of_ble_eq_true rfl) rfl ?_
  intro A p e R s0 m args below meth c Q ad0 hR X hret
  have X : Cx G A RX9 cX9_rank 5 p s0 m args c := X
  have hT := tk_X9_rank X (calE_ok (es := es_X9_rank) (enn)) (rmD rfl hR) hret
  rw [← eq_X9_rank d hd a0 s] at h
  refine ex_good hT (fun pc' ls' st' x' hh => ?_) 36 0 _ [] s h
  unfold ka_X9_rank at hh
  cases hb : Nat.beq pc' 5 with
  | true =>
    rw [hb] at hh
    have e9 := beq1 hb
    subst e9
    simp only [cond_true] at hh
    split at hh
    · obtain ⟨g0, hh1⟩ := gd_some hh
      have e0 := veq_of g0
      subst e0
      obtain ⟨g1, hh2⟩ := gd_some hh1
      have e1 := veq_of g1
      subst e1
      exact Gd.wk (gd_X9_rank_5 hT hd _ _ _ _ _ hh2) (Lle.eq (Lle.eq (Lle.eq (Lle.eq (Lle.eq Lle.nil)))))
    · cases hh
  | false =>
    rw [hb] at hh
    simp only [cond_false] at hh
    cases hh

noncomputable def en_X9_rank  : En := fun _ av s k => match av with
  | [.ref r0, .ref d, .int a0] => (gd (Nat.beq r0 1) (gd (Nat.beq d 7) (bI (f_X9_rank d a0 s) k)))
  | _ => none
set_option maxRecDepth 100000 in
set_option maxHeartbeats 4000000 in
theorem en_X9_rank_ok {l : Launch} {G : Gm} (D : Nat) (hD : 1 ≤ D) : enOK l G D 86 en_X9_rank := by
  intro ρ av x k r h
  unfold en_X9_rank at h
  split at h
  · obtain ⟨g0, h⟩ := gd_some h
    obtain ⟨g1, h⟩ := gd_some h
    obtain ⟨q, h1, h2⟩ := bind_of h
    have e0 := beq1 g0
    subst e0
    obtain ⟨D', rfl⟩ : ∃ D', D = D' + 1 := ⟨D - 1, by omega⟩
    exact ⟨_, _, h2, run_X9_rank g1 _ _ _ h1 D' (by omega)⟩
  · cases h

