/-! HatRankModel in -/
noncomputable def tb_X12_in (cal : Cal SS) : List (Nat × Ins SS) := [(0, e_iload 0 1), (1, e_iload 1 2), (2, e_clt 14 5), (5, e_iload 0 6), (6, e_iload 2 7), (7, e_cgt 14 10), (10, e_iconst (1) 11), (11, e_goto 15), (14, e_iconst (0) 15), (15, e_zret)]
set_option maxRecDepth 100000 in
set_option maxHeartbeats 4000000 in
theorem tk_X12_in {ad0 : Nat → Nat} {G : Gm} {A : Nat → Prop} {p : Program} {l : Launch} {e : Env} {R : Room} {s0 : State} {m : MethodId} {args : Array Value} {below : List Frame} {meth : Method} {c : Code} {Q : State → Prop} {ρ : Type} {ret : Option Value → SS → Option ρ} {r : ρ} (X : Cx G A RX12 cX12_in 3 p s0 m args c) {D' : Nat} {cal : Cal SS} (hcal : calOK l G opsS D' cal) (hRm : ∀ k, k ≤ 21 → D' + 1 ≤ R.frames ∧ 8 + (k + 11) + 40 * D' ≤ R.locals) (hret : RetK G A cX12_in 113 6344 ad0 p l e R s0 m args below meth c Q opsS ret r .ireturn okZ) : ∀ q ∈ tb_X12_in cal, OKi G A 3 113 6344 ad0 p l e R s0 m args below meth c Q opsS ret r q.1 q.2 :=
    okc (ok_iload_n (j := 0) X (by decide +kernel) rfl rfl) (
    okc (ok_iload_n (j := 1) X (by decide +kernel) rfl rfl) (
    okc (ok_clt (off := 12) X (by decide +kernel) (by decide) rfl) (
    okc (ok_iload_n (j := 0) X (by decide +kernel) rfl rfl) (
    okc (ok_iload_n (j := 2) X (by decide +kernel) rfl rfl) (
    okc (ok_cgt (off := 7) X (by decide +kernel) (by decide) rfl) (
    okc (ok_iconst (n := 1) X (by decide +kernel) rfl rfl) (
    okc (ok_goto (off := 4) X (by decide +kernel) (by decide)) (
    okc (ok_iconst (n := 0) X (by decide +kernel) rfl rfl) (
    okc (ok_zret hret (by decide +kernel)) (
    okn))))))))))
noncomputable def es_X12_in  : List (Nat × En) := []
set_option maxRecDepth 100000 in
set_option maxHeartbeats 4000000 in
theorem eq_X12_in   (a0 : Int32) (a1 : Int32) (a2 : Int32) (s : SS) : ex (tb_X12_in (calE (es_X12_in))) rI [] (fun _ _ _ _ => none) 12 0 [some (.int a0), some (.int a1), some (.int a2)] [] s = f_X12_in a0 a1 a2 s := by
  rfl
set_option maxRecDepth 100000 in
set_option maxHeartbeats 4000000 in
theorem run_X12_in {l : Launch} {G : Gm}   (a0 : Int32) (a1 : Int32) (a2 : Int32) (s : SS) (q : (Int32 × SS)) (h : f_X12_in a0 a1 a2 s = some q) (D' : Nat) (hD : 0 ≤ D') : RunsM l G (D' + 1) (md 149) (embS s) [.int a0, .int a1, .int a2] (some (.int q.1)) (embS q.2) := by
  rw [md_X12_in]
  refine runs_Z (plainFor_of_name (by decide +kernel)) (Nat.le_of_ble_eq_true rfl) rfl ?_
  intro A p e R s0 m args below meth c Q ad0 hR X hret
  have X : Cx G A RX12 cX12_in 3 p s0 m args c := X
  have hT := tk_X12_in X (calE_ok (es := es_X12_in) (enn)) (rmD rfl hR) hret
  rw [← eq_X12_in   a0 a1 a2 s] at h
  refine ex_good hT (fun pc' ls' st' x' hh => ?_) 12 0 _ [] s h
  cases hh

noncomputable def en_X12_in  : En := fun _ av s k => match av with
  | [.int a0, .int a1, .int a2] => (bI (f_X12_in a0 a1 a2 s) k)
  | _ => none
set_option maxRecDepth 100000 in
set_option maxHeartbeats 4000000 in
theorem en_X12_in_ok {l : Launch} {G : Gm} (D : Nat) (hD : 1 ≤ D) : enOK l G D 149 en_X12_in := by
  intro ρ av x k r h
  unfold en_X12_in at h
  split at h
  · obtain ⟨q, h1, h2⟩ := bind_of h
    obtain ⟨D', rfl⟩ : ∃ D', D = D' + 1 := ⟨D - 1, by omega⟩
    exact ⟨_, _, h2, run_X12_in  _ _ _ _ _ h1 D' (by omega)⟩
  · cases h

/-! HatRankModel isPlace -/
noncomputable def tb_X12_isPlace (cal : Cal SS) : List (Nat × Ins SS) := [(0, e_iload 1 1), (1, e_iconst (0) 2), (2, e_aload 0 3), (3, e_getI opsS 12 4 6), (6, e_iconst (1) 7), (7, e_bin aSub 8), (8, e_callS cal 149 3 11), (11, e_zret)]
set_option maxRecDepth 100000 in
set_option maxHeartbeats 4000000 in
theorem tk_X12_isPlace {ad0 : Nat → Nat} {G : Gm} {A : Nat → Prop} {p : Program} {l : Launch} {e : Env} {R : Room} {s0 : State} {m : MethodId} {args : Array Value} {below : List Frame} {meth : Method} {c : Code} {Q : State → Prop} {ρ : Type} {ret : Option Value → SS → Option ρ} {r : ρ} (X : Cx G A RX12 cX12_isPlace 2 p s0 m args c) {D' : Nat} {cal : Cal SS} (hcal : calOK l G opsS D' cal) (hRm : ∀ k, k ≤ 21 → D' + 1 ≤ R.frames ∧ 8 + (k + 11) + 40 * D' ≤ R.locals) (hret : RetK G A cX12_isPlace 113 6344 ad0 p l e R s0 m args below meth c Q opsS ret r .ireturn okZ) : ∀ q ∈ tb_X12_isPlace cal, OKi G A 2 113 6344 ad0 p l e R s0 m args below meth c Q opsS ret r q.1 q.2 :=
    okc (ok_iload_n (j := 1) X (by decide +kernel) rfl rfl) (
    okc (ok_iconst (n := 0) X (by decide +kernel) rfl rfl) (
    okc (ok_aload_n (j := 0) X (by decide +kernel) rfl rfl) (
    okc (ok_getI (ci := 12) (kf := 4) (idx := 131) (C := RX12) (T := TX12) (N := 63) X rfl (by decide) inX12 (by decide) wf_X12_131 (fun _ _ _ => rfl) (by decide +kernel) rfl) (
    okc (ok_iconst (n := 1) X (by decide +kernel) rfl rfl) (
    okc (ok_isub X (by decide +kernel) rfl) (
    okc (ok_callS (Y := (yX12_in, cX12_in, 3, (some .boolean))) X hcal opsS_n md_X12_in wc_X12_in wl_X12_134 wi_X12 ws_X12_in (by decide +kernel) (hRm 3 (by decide)) (by decide +kernel) rfl) (
    okc (ok_zret hret (by decide +kernel)) (
    okn))))))))
noncomputable def es_X12_isPlace  : List (Nat × En) := [(149, en_X12_in)]
set_option maxRecDepth 100000 in
set_option maxHeartbeats 4000000 in
theorem eq_X12_isPlace   (a0 : Int32) (s : SS) : ex (tb_X12_isPlace (calE (es_X12_isPlace))) rI [] (fun _ _ _ _ => none) 10 0 [some (.ref 74), some (.int a0)] [] s = f_X12_isPlace a0 s := by
  rfl
set_option maxRecDepth 100000 in
set_option maxHeartbeats 4000000 in
theorem run_X12_isPlace {l : Launch} {G : Gm}   (a0 : Int32) (s : SS) (q : (Int32 × SS)) (h : f_X12_isPlace a0 s = some q) (D' : Nat) (hD : 1 ≤ D') : RunsM l G (D' + 1) (md 150) (embS s) [.ref 74, .int a0] (some (.int q.1)) (embS q.2) := by
  rw [md_X12_isPlace]
  refine runs_Z (plainFor_of_name (by decide +kernel)) (Nat.le_of_ble_eq_true rfl) rfl ?_
  intro A p e R s0 m args below meth c Q ad0 hR X hret
  have X : Cx G A RX12 cX12_isPlace 2 p s0 m args c := X
  have hT := tk_X12_isPlace X (calE_ok (es := es_X12_isPlace) (enc (en_X12_in_ok _ (by omega)) (enn))) (rmD rfl hR) hret
  rw [← eq_X12_isPlace   a0 s] at h
  refine ex_good hT (fun pc' ls' st' x' hh => ?_) 10 0 _ [] s h
  cases hh

noncomputable def en_X12_isPlace  : En := fun _ av s k => match av with
  | [.ref r0, .int a0] => (gd (Nat.beq r0 74) (bI (f_X12_isPlace a0 s) k))
  | _ => none
set_option maxRecDepth 100000 in
set_option maxHeartbeats 4000000 in
theorem en_X12_isPlace_ok {l : Launch} {G : Gm} (D : Nat) (hD : 2 ≤ D) : enOK l G D 150 en_X12_isPlace := by
  intro ρ av x k r h
  unfold en_X12_isPlace at h
  split at h
  · obtain ⟨g0, h⟩ := gd_some h
    obtain ⟨q, h1, h2⟩ := bind_of h
    have e0 := beq1 g0
    subst e0
    obtain ⟨D', rfl⟩ : ∃ D', D = D' + 1 := ⟨D - 1, by omega⟩
    exact ⟨_, _, h2, run_X12_isPlace  _ _ _ h1 D' (by omega)⟩
  · cases h

/-! HatRankModel isPerson -/
noncomputable def tb_X12_isPerson (cal : Cal SS) : List (Nat × Ins SS) := [(0, e_iload 1 1), (1, e_iconst (0) 2), (2, e_aload 0 3), (3, e_getI opsS 12 11 6), (6, e_iconst (1) 7), (7, e_bin aSub 8), (8, e_callS cal 149 3 11), (11, e_zret)]
set_option maxRecDepth 100000 in
set_option maxHeartbeats 4000000 in
theorem tk_X12_isPerson {ad0 : Nat → Nat} {G : Gm} {A : Nat → Prop} {p : Program} {l : Launch} {e : Env} {R : Room} {s0 : State} {m : MethodId} {args : Array Value} {below : List Frame} {meth : Method} {c : Code} {Q : State → Prop} {ρ : Type} {ret : Option Value → SS → Option ρ} {r : ρ} (X : Cx G A RX12 cX12_isPerson 2 p s0 m args c) {D' : Nat} {cal : Cal SS} (hcal : calOK l G opsS D' cal) (hRm : ∀ k, k ≤ 21 → D' + 1 ≤ R.frames ∧ 8 + (k + 11) + 40 * D' ≤ R.locals) (hret : RetK G A cX12_isPerson 113 6344 ad0 p l e R s0 m args below meth c Q opsS ret r .ireturn okZ) : ∀ q ∈ tb_X12_isPerson cal, OKi G A 2 113 6344 ad0 p l e R s0 m args below meth c Q opsS ret r q.1 q.2 :=
    okc (ok_iload_n (j := 1) X (by decide +kernel) rfl rfl) (
    okc (ok_iconst (n := 0) X (by decide +kernel) rfl rfl) (
    okc (ok_aload_n (j := 0) X (by decide +kernel) rfl rfl) (
    okc (ok_getI (ci := 12) (kf := 11) (idx := 138) (C := RX12) (T := TX12) (N := 63) X rfl (by decide) inX12 (by decide) wf_X12_138 (fun _ _ _ => rfl) (by decide +kernel) rfl) (
    okc (ok_iconst (n := 1) X (by decide +kernel) rfl rfl) (
    okc (ok_isub X (by decide +kernel) rfl) (
    okc (ok_callS (Y := (yX12_in, cX12_in, 3, (some .boolean))) X hcal opsS_n md_X12_in wc_X12_in wl_X12_134 wi_X12 ws_X12_in (by decide +kernel) (hRm 3 (by decide)) (by decide +kernel) rfl) (
    okc (ok_zret hret (by decide +kernel)) (
    okn))))))))
noncomputable def es_X12_isPerson  : List (Nat × En) := [(149, en_X12_in)]
set_option maxRecDepth 100000 in
set_option maxHeartbeats 4000000 in
theorem eq_X12_isPerson   (a0 : Int32) (s : SS) : ex (tb_X12_isPerson (calE (es_X12_isPerson))) rI [] (fun _ _ _ _ => none) 10 0 [some (.ref 74), some (.int a0)] [] s = f_X12_isPerson a0 s := by
  rfl
set_option maxRecDepth 100000 in
set_option maxHeartbeats 4000000 in
theorem run_X12_isPerson {l : Launch} {G : Gm}   (a0 : Int32) (s : SS) (q : (Int32 × SS)) (h : f_X12_isPerson a0 s = some q) (D' : Nat) (hD : 1 ≤ D') : RunsM l G (D' + 1) (md 151) (embS s) [.ref 74, .int a0] (some (.int q.1)) (embS q.2) := by
  rw [md_X12_isPerson]
  refine runs_Z (plainFor_of_name (by decide +kernel)) (Nat.le_of_ble_eq_true rfl) rfl ?_
  intro A p e R s0 m args below meth c Q ad0 hR X hret
  have X : Cx G A RX12 cX12_isPerson 2 p s0 m args c := X
  have hT := tk_X12_isPerson X (calE_ok (es := es_X12_isPerson) (enc (en_X12_in_ok _ (by omega)) (enn))) (rmD rfl hR) hret
  rw [← eq_X12_isPerson   a0 s] at h
  refine ex_good hT (fun pc' ls' st' x' hh => ?_) 10 0 _ [] s h
  cases hh

noncomputable def en_X12_isPerson  : En := fun _ av s k => match av with
  | [.ref r0, .int a0] => (gd (Nat.beq r0 74) (bI (f_X12_isPerson a0 s) k))
  | _ => none
set_option maxRecDepth 100000 in
set_option maxHeartbeats 4000000 in
theorem en_X12_isPerson_ok {l : Launch} {G : Gm} (D : Nat) (hD : 2 ≤ D) : enOK l G D 151 en_X12_isPerson := by
  intro ρ av x k r h
  unfold en_X12_isPerson at h
  split at h
  · obtain ⟨g0, h⟩ := gd_some h
    obtain ⟨q, h1, h2⟩ := bind_of h
    have e0 := beq1 g0
    subst e0
    obtain ⟨D', rfl⟩ : ∃ D', D = D' + 1 := ⟨D - 1, by omega⟩
    exact ⟨_, _, h2, run_X12_isPerson  _ _ _ h1 D' (by omega)⟩
  · cases h

/-! HatRankModel isHour -/
noncomputable def tb_X12_isHour (cal : Cal SS) : List (Nat × Ins SS) := [(0, e_iload 0 1), (1, e_iconst (0) 2), (2, e_iconst (23) 4), (4, e_callS cal 149 3 7), (7, e_zret)]
set_option maxRecDepth 100000 in
set_option maxHeartbeats 4000000 in
theorem tk_X12_isHour {ad0 : Nat → Nat} {G : Gm} {A : Nat → Prop} {p : Program} {l : Launch} {e : Env} {R : Room} {s0 : State} {m : MethodId} {args : Array Value} {below : List Frame} {meth : Method} {c : Code} {Q : State → Prop} {ρ : Type} {ret : Option Value → SS → Option ρ} {r : ρ} (X : Cx G A RX12 cX12_isHour 1 p s0 m args c) {D' : Nat} {cal : Cal SS} (hcal : calOK l G opsS D' cal) (hRm : ∀ k, k ≤ 21 → D' + 1 ≤ R.frames ∧ 8 + (k + 11) + 40 * D' ≤ R.locals) (hret : RetK G A cX12_isHour 113 6344 ad0 p l e R s0 m args below meth c Q opsS ret r .ireturn okZ) : ∀ q ∈ tb_X12_isHour cal, OKi G A 1 113 6344 ad0 p l e R s0 m args below meth c Q opsS ret r q.1 q.2 :=
    okc (ok_iload_n (j := 0) X (by decide +kernel) rfl rfl) (
    okc (ok_iconst (n := 0) X (by decide +kernel) rfl rfl) (
    okc (ok_bipush (n := 23) X (by decide +kernel) rfl rfl) (
    okc (ok_callS (Y := (yX12_in, cX12_in, 3, (some .boolean))) X hcal opsS_n md_X12_in wc_X12_in wl_X12_134 wi_X12 ws_X12_in (by decide +kernel) (hRm 3 (by decide)) (by decide +kernel) rfl) (
    okc (ok_zret hret (by decide +kernel)) (
    okn)))))
noncomputable def es_X12_isHour  : List (Nat × En) := [(149, en_X12_in)]
set_option maxRecDepth 100000 in
set_option maxHeartbeats 4000000 in
theorem eq_X12_isHour   (a0 : Int32) (s : SS) : ex (tb_X12_isHour (calE (es_X12_isHour))) rI [] (fun _ _ _ _ => none) 7 0 [some (.int a0)] [] s = f_X12_isHour a0 s := by
  rfl
set_option maxRecDepth 100000 in
set_option maxHeartbeats 4000000 in
theorem run_X12_isHour {l : Launch} {G : Gm}   (a0 : Int32) (s : SS) (q : (Int32 × SS)) (h : f_X12_isHour a0 s = some q) (D' : Nat) (hD : 1 ≤ D') : RunsM l G (D' + 1) (md 152) (embS s) [.int a0] (some (.int q.1)) (embS q.2) := by
  rw [md_X12_isHour]
  refine runs_Z (plainFor_of_name (by decide +kernel)) (Nat.le_of_ble_eq_true rfl) rfl ?_
  intro A p e R s0 m args below meth c Q ad0 hR X hret
  have X : Cx G A RX12 cX12_isHour 1 p s0 m args c := X
  have hT := tk_X12_isHour X (calE_ok (es := es_X12_isHour) (enc (en_X12_in_ok _ (by omega)) (enn))) (rmD rfl hR) hret
  rw [← eq_X12_isHour   a0 s] at h
  refine ex_good hT (fun pc' ls' st' x' hh => ?_) 7 0 _ [] s h
  cases hh

noncomputable def en_X12_isHour  : En := fun _ av s k => match av with
  | [.int a0] => (bI (f_X12_isHour a0 s) k)
  | _ => none
set_option maxRecDepth 100000 in
set_option maxHeartbeats 4000000 in
theorem en_X12_isHour_ok {l : Launch} {G : Gm} (D : Nat) (hD : 2 ≤ D) : enOK l G D 152 en_X12_isHour := by
  intro ρ av x k r h
  unfold en_X12_isHour at h
  split at h
  · obtain ⟨q, h1, h2⟩ := bind_of h
    obtain ⟨D', rfl⟩ : ∃ D', D = D' + 1 := ⟨D - 1, by omega⟩
    exact ⟨_, _, h2, run_X12_isHour  _ _ _ h1 D' (by omega)⟩
  · cases h

/-! HatRankModel place -/
noncomputable def tb_X12_place (cal : Cal SS) : List (Nat × Ins SS) := [(0, e_iload 1 1), (1, e_iconst (0) 2), (2, e_iconst (9) 4), (4, e_callS cal 149 3 7), (7, e_ifne 12 10), (10, e_iconst (-1) 11), (11, e_iret), (12, e_aload 0 13), (13, e_getI opsS 12 4 16), (16, e_iconst (7) 18), (18, e_cne 24 21), (21, e_iconst (-3) 23), (23, e_iret), (24, e_aload 0 25), (25, e_getR opsS 12 5 28), (28, e_aload 0 29), (29, e_getI opsS 12 4 32), (32, e_iload 1 33), (33, e_ast opsS 100 (fun v => v) 34), (34, e_aload 0 35), (35, e_getR opsS 12 6 38), (38, e_aload 0 39), (39, e_getI opsS 12 4 42), (42, e_aload 0 43), (43, e_getI opsS 12 4 46), (46, e_ast opsS 100 (fun v => v) 47), (47, e_aload 0 48), (48, e_getR opsS 12 7 51), (51, e_aload 0 52), (52, e_getI opsS 12 4 55), (55, e_iconst (0) 56), (56, e_ast opsS 100 (fun v => v) 57), (57, e_aload 0 58), (58, e_dup 59), (59, e_getI opsS 12 4 62), (62, e_iconst (1) 63), (63, e_bin aAdd 64), (64, e_putI opsS 12 4 67), (67, e_aload 0 68), (68, e_getI opsS 12 4 71), (71, e_iconst (1) 72), (72, e_bin aSub 73), (73, e_iret)]
set_option maxRecDepth 100000 in
set_option maxHeartbeats 4000000 in
theorem tk_X12_place {ad0 : Nat → Nat} {G : Gm} {A : Nat → Prop} {p : Program} {l : Launch} {e : Env} {R : Room} {s0 : State} {m : MethodId} {args : Array Value} {below : List Frame} {meth : Method} {c : Code} {Q : State → Prop} {ρ : Type} {ret : Option Value → SS → Option ρ} {r : ρ} (X : Cx G A RX12 cX12_place 2 p s0 m args c) {D' : Nat} {cal : Cal SS} (hcal : calOK l G opsS D' cal) (hRm : ∀ k, k ≤ 21 → D' + 1 ≤ R.frames ∧ 8 + (k + 11) + 40 * D' ≤ R.locals) (hret : RetK G A cX12_place 113 6344 ad0 p l e R s0 m args below meth c Q opsS ret r .ireturn okI) : ∀ q ∈ tb_X12_place cal, OKi G A 2 113 6344 ad0 p l e R s0 m args below meth c Q opsS ret r q.1 q.2 :=
    okc (ok_iload_n (j := 1) X (by decide +kernel) rfl rfl) (
    okc (ok_iconst (n := 0) X (by decide +kernel) rfl rfl) (
    okc (ok_bipush (n := 9) X (by decide +kernel) rfl rfl) (
    okc (ok_callS (Y := (yX12_in, cX12_in, 3, (some .boolean))) X hcal opsS_n md_X12_in wc_X12_in wl_X12_134 wi_X12 ws_X12_in (by decide +kernel) (hRm 3 (by decide)) (by decide +kernel) rfl) (
    okc (ok_ifne (off := 5) X (by decide +kernel) (by decide) rfl) (
    okc (ok_iconst (n := -1) X (by decide +kernel) rfl rfl) (
    okc (ok_iret hret (by decide +kernel)) (
    okc (ok_aload_n (j := 0) X (by decide +kernel) rfl rfl) (
    okc (ok_getI (ci := 12) (kf := 4) (idx := 131) (C := RX12) (T := TX12) (N := 63) X rfl (by decide) inX12 (by decide) wf_X12_131 (fun _ _ _ => rfl) (by decide +kernel) rfl) (
    okc (ok_bipush (n := 7) X (by decide +kernel) rfl rfl) (
    okc (ok_cne (off := 6) X (by decide +kernel) (by decide) rfl) (
    okc (ok_bipush (n := -3) X (by decide +kernel) rfl rfl) (
    okc (ok_iret hret (by decide +kernel)) (
    okc (ok_aload_n (j := 0) X (by decide +kernel) rfl rfl) (
    okc (ok_getR (ci := 12) (kf := 5) (idx := 13) (C := RX12) (T := TX12) (N := 63) X rfl (by decide) inX12 (by decide) wf_X12_13 (fun _ _ _ => rfl) (by decide +kernel) rfl) (
    okc (ok_aload_n (j := 0) X (by decide +kernel) rfl rfl) (
    okc (ok_getI (ci := 12) (kf := 4) (idx := 131) (C := RX12) (T := TX12) (N := 63) X rfl (by decide) inX12 (by decide) wf_X12_131 (fun _ _ _ => rfl) (by decide +kernel) rfl) (
    okc (ok_iload_n (j := 1) X (by decide +kernel) rfl rfl) (
    okc (ok_iast X opsS_ok (by decide +kernel) rfl) (
    okc (ok_aload_n (j := 0) X (by decide +kernel) rfl rfl) (
    okc (ok_getR (ci := 12) (kf := 6) (idx := 16) (C := RX12) (T := TX12) (N := 63) X rfl (by decide) inX12 (by decide) wf_X12_16 (fun _ _ _ => rfl) (by decide +kernel) rfl) (
    okc (ok_aload_n (j := 0) X (by decide +kernel) rfl rfl) (
    okc (ok_getI (ci := 12) (kf := 4) (idx := 131) (C := RX12) (T := TX12) (N := 63) X rfl (by decide) inX12 (by decide) wf_X12_131 (fun _ _ _ => rfl) (by decide +kernel) rfl) (
    okc (ok_aload_n (j := 0) X (by decide +kernel) rfl rfl) (
    okc (ok_getI (ci := 12) (kf := 4) (idx := 131) (C := RX12) (T := TX12) (N := 63) X rfl (by decide) inX12 (by decide) wf_X12_131 (fun _ _ _ => rfl) (by decide +kernel) rfl) (
    okc (ok_iast X opsS_ok (by decide +kernel) rfl) (
    okc (ok_aload_n (j := 0) X (by decide +kernel) rfl rfl) (
    okc (ok_getR (ci := 12) (kf := 7) (idx := 19) (C := RX12) (T := TX12) (N := 63) X rfl (by decide) inX12 (by decide) wf_X12_19 (fun _ _ _ => rfl) (by decide +kernel) rfl) (
    okc (ok_aload_n (j := 0) X (by decide +kernel) rfl rfl) (
    okc (ok_getI (ci := 12) (kf := 4) (idx := 131) (C := RX12) (T := TX12) (N := 63) X rfl (by decide) inX12 (by decide) wf_X12_131 (fun _ _ _ => rfl) (by decide +kernel) rfl) (
    okc (ok_iconst (n := 0) X (by decide +kernel) rfl rfl) (
    okc (ok_iast X opsS_ok (by decide +kernel) rfl) (
    okc (ok_aload_n (j := 0) X (by decide +kernel) rfl rfl) (
    okc (ok_dup X (by decide +kernel) rfl) (
    okc (ok_getI (ci := 12) (kf := 4) (idx := 131) (C := RX12) (T := TX12) (N := 63) X rfl (by decide) inX12 (by decide) wf_X12_131 (fun _ _ _ => rfl) (by decide +kernel) rfl) (
    okc (ok_iconst (n := 1) X (by decide +kernel) rfl rfl) (
    okc (ok_iadd X (by decide +kernel) rfl) (
    okc (ok_putI (ci := 12) (kf := 4) (idx := 131) (C := RX12) (T := TX12) (N := 63) X opsS_ok rfl (by decide) inX12 tyX12_ok nmX12 (by decide) wf_X12_131 rfl (fun _ _ _ => rfl) (by decide +kernel) (by decide +kernel) rfl) (
    okc (ok_aload_n (j := 0) X (by decide +kernel) rfl rfl) (
    okc (ok_getI (ci := 12) (kf := 4) (idx := 131) (C := RX12) (T := TX12) (N := 63) X rfl (by decide) inX12 (by decide) wf_X12_131 (fun _ _ _ => rfl) (by decide +kernel) rfl) (
    okc (ok_iconst (n := 1) X (by decide +kernel) rfl rfl) (
    okc (ok_isub X (by decide +kernel) rfl) (
    okc (ok_iret hret (by decide +kernel)) (
    okn)))))))))))))))))))))))))))))))))))))))))))
noncomputable def es_X12_place  : List (Nat × En) := [(149, en_X12_in)]
set_option maxRecDepth 100000 in
set_option maxHeartbeats 4000000 in
theorem eq_X12_place   (a0 : Int32) (s : SS) : ex (tb_X12_place (calE (es_X12_place))) rI [] (fun _ _ _ _ => none) 45 0 [some (.ref 74), some (.int a0)] [] s = f_X12_place a0 s := by
  rfl
set_option maxRecDepth 100000 in
set_option maxHeartbeats 4000000 in
theorem run_X12_place {l : Launch} {G : Gm}   (a0 : Int32) (s : SS) (q : (Int32 × SS)) (h : f_X12_place a0 s = some q) (D' : Nat) (hD : 1 ≤ D') : RunsM l G (D' + 1) (md 153) (embS s) [.ref 74, .int a0] (some (.int q.1)) (embS q.2) := by
  rw [md_X12_place]
  refine runs_I (plainFor_of_name (by decide +kernel)) (Nat.le_of_ble_eq_true rfl) rfl ?_
  intro A p e R s0 m args below meth c Q ad0 hR X hret
  have X : Cx G A RX12 cX12_place 2 p s0 m args c := X
  have hT := tk_X12_place X (calE_ok (es := es_X12_place) (enc (en_X12_in_ok _ (by omega)) (enn))) (rmD rfl hR) hret
  rw [← eq_X12_place   a0 s] at h
  refine ex_good hT (fun pc' ls' st' x' hh => ?_) 45 0 _ [] s h
  cases hh

noncomputable def en_X12_place  : En := fun _ av s k => match av with
  | [.ref r0, .int a0] => (gd (Nat.beq r0 74) (bI (f_X12_place a0 s) k))
  | _ => none
set_option maxRecDepth 100000 in
set_option maxHeartbeats 4000000 in
theorem en_X12_place_ok {l : Launch} {G : Gm} (D : Nat) (hD : 2 ≤ D) : enOK l G D 153 en_X12_place := by
  intro ρ av x k r h
  unfold en_X12_place at h
  split at h
  · obtain ⟨g0, h⟩ := gd_some h
    obtain ⟨q, h1, h2⟩ := bind_of h
    have e0 := beq1 g0
    subst e0
    obtain ⟨D', rfl⟩ : ∃ D', D = D' + 1 := ⟨D - 1, by omega⟩
    exact ⟨_, _, h2, run_X12_place  _ _ _ h1 D' (by omega)⟩
  · cases h

/-! HatRankModel isWay -/
noncomputable def tb_X12_isWay (cal : Cal SS) : List (Nat × Ins SS) := [(0, e_iconst (0) 1), (1, e_istore 3 2), (2, e_iload 3 3), (3, e_aload 0 4), (4, e_getI opsS 12 8 7), (7, e_cge 58 10), (10, e_aload 0 11), (11, e_getR opsS 12 9 14), (14, e_iload 3 15), (15, e_ald opsS 100 16), (16, e_iload 1 17), (17, e_cne 30 20), (20, e_aload 0 21), (21, e_getR opsS 12 10 24), (24, e_iload 3 25), (25, e_ald opsS 100 26), (26, e_iload 2 27), (27, e_ceq 50 30), (30, e_aload 0 31), (31, e_getR opsS 12 9 34), (34, e_iload 3 35), (35, e_ald opsS 100 36), (36, e_iload 2 37), (37, e_cne 52 40), (40, e_aload 0 41), (41, e_getR opsS 12 10 44), (44, e_iload 3 45), (45, e_ald opsS 100 46), (46, e_iload 1 47), (47, e_cne 52 50), (50, e_iconst (1) 51), (51, e_zret), (52, e_iinc 3 (1) 55), (55, e_goto 2), (58, e_iconst (0) 59), (59, e_zret)]
set_option maxRecDepth 100000 in
set_option maxHeartbeats 4000000 in
theorem tk_X12_isWay {ad0 : Nat → Nat} {G : Gm} {A : Nat → Prop} {p : Program} {l : Launch} {e : Env} {R : Room} {s0 : State} {m : MethodId} {args : Array Value} {below : List Frame} {meth : Method} {c : Code} {Q : State → Prop} {ρ : Type} {ret : Option Value → SS → Option ρ} {r : ρ} (X : Cx G A RX12 cX12_isWay 4 p s0 m args c) {D' : Nat} {cal : Cal SS} (hcal : calOK l G opsS D' cal) (hRm : ∀ k, k ≤ 21 → D' + 1 ≤ R.frames ∧ 8 + (k + 11) + 40 * D' ≤ R.locals) (hret : RetK G A cX12_isWay 113 6344 ad0 p l e R s0 m args below meth c Q opsS ret r .ireturn okZ) : ∀ q ∈ tb_X12_isWay cal, OKi G A 4 113 6344 ad0 p l e R s0 m args below meth c Q opsS ret r q.1 q.2 :=
    okc (ok_iconst (n := 0) X (by decide +kernel) rfl rfl) (
    okc (ok_istore_n (j := 3) X (by decide +kernel) rfl rfl) (
    okc (ok_iload_n (j := 3) X (by decide +kernel) rfl rfl) (
    okc (ok_aload_n (j := 0) X (by decide +kernel) rfl rfl) (
    okc (ok_getI (ci := 12) (kf := 8) (idx := 141) (C := RX12) (T := TX12) (N := 63) X rfl (by decide) inX12 (by decide) wf_X12_141 (fun _ _ _ => rfl) (by decide +kernel) rfl) (
    okc (ok_cge (off := 51) X (by decide +kernel) (by decide) rfl) (
    okc (ok_aload_n (j := 0) X (by decide +kernel) rfl rfl) (
    okc (ok_getR (ci := 12) (kf := 9) (idx := 22) (C := RX12) (T := TX12) (N := 63) X rfl (by decide) inX12 (by decide) wf_X12_22 (fun _ _ _ => rfl) (by decide +kernel) rfl) (
    okc (ok_iload_n (j := 3) X (by decide +kernel) rfl rfl) (
    okc (ok_iald X (by decide +kernel) rfl) (
    okc (ok_iload_n (j := 1) X (by decide +kernel) rfl rfl) (
    okc (ok_cne (off := 13) X (by decide +kernel) (by decide) rfl) (
    okc (ok_aload_n (j := 0) X (by decide +kernel) rfl rfl) (
    okc (ok_getR (ci := 12) (kf := 10) (idx := 25) (C := RX12) (T := TX12) (N := 63) X rfl (by decide) inX12 (by decide) wf_X12_25 (fun _ _ _ => rfl) (by decide +kernel) rfl) (
    okc (ok_iload_n (j := 3) X (by decide +kernel) rfl rfl) (
    okc (ok_iald X (by decide +kernel) rfl) (
    okc (ok_iload_n (j := 2) X (by decide +kernel) rfl rfl) (
    okc (ok_ceq (off := 23) X (by decide +kernel) (by decide) rfl) (
    okc (ok_aload_n (j := 0) X (by decide +kernel) rfl rfl) (
    okc (ok_getR (ci := 12) (kf := 9) (idx := 22) (C := RX12) (T := TX12) (N := 63) X rfl (by decide) inX12 (by decide) wf_X12_22 (fun _ _ _ => rfl) (by decide +kernel) rfl) (
    okc (ok_iload_n (j := 3) X (by decide +kernel) rfl rfl) (
    okc (ok_iald X (by decide +kernel) rfl) (
    okc (ok_iload_n (j := 2) X (by decide +kernel) rfl rfl) (
    okc (ok_cne (off := 15) X (by decide +kernel) (by decide) rfl) (
    okc (ok_aload_n (j := 0) X (by decide +kernel) rfl rfl) (
    okc (ok_getR (ci := 12) (kf := 10) (idx := 25) (C := RX12) (T := TX12) (N := 63) X rfl (by decide) inX12 (by decide) wf_X12_25 (fun _ _ _ => rfl) (by decide +kernel) rfl) (
    okc (ok_iload_n (j := 3) X (by decide +kernel) rfl rfl) (
    okc (ok_iald X (by decide +kernel) rfl) (
    okc (ok_iload_n (j := 1) X (by decide +kernel) rfl rfl) (
    okc (ok_cne (off := 5) X (by decide +kernel) (by decide) rfl) (
    okc (ok_iconst (n := 1) X (by decide +kernel) rfl rfl) (
    okc (ok_zret hret (by decide +kernel)) (
    okc (ok_iinc (n := 1) X (by decide +kernel) rfl rfl) (
    okc (ok_goto (off := -53) X (by decide +kernel) (by decide)) (
    okc (ok_iconst (n := 0) X (by decide +kernel) rfl rfl) (
    okc (ok_zret hret (by decide +kernel)) (
    okn))))))))))))))))))))))))))))))))))))
noncomputable def es_X12_isWay  : List (Nat × En) := []
noncomputable def ka_X12_isWay_2   (n : Nat) : Kn SS (Int32 × SS) := fun pc ls st s => bif Nat.beq pc 2 then (match ls, st with
    | [some y0, some (.int x1), some (.int x2), some (.int x3)], [] => (gd (veq y0 (.ref 74)) (F_X12_isWay_2 n x1 x2 x3 s))
    | _, _ => none) else (none)
set_option maxRecDepth 100000 in
set_option maxHeartbeats 4000000 in
theorem eq_X12_isWay_2    (n : Nat) (x1 : Int32) (x2 : Int32) (x3 : Int32) (s : SS) : ex (tb_X12_isWay (calE (es_X12_isWay))) rI [2] (ka_X12_isWay_2   n) 38 2 [some (.ref 74), some (.int x1), some (.int x2), some (.int x3)] [] s = F_X12_isWay_2   (n + 1) x1 x2 x3 s := by
  rfl
set_option maxRecDepth 100000 in
set_option maxHeartbeats 4000000 in
theorem gd_X12_isWay_2 {ad0 : Nat → Nat} {G : Gm} {A : Nat → Prop} {p : Program} {l : Launch} {e : Env} {R : Room} {s0 : State} {m : MethodId} {args : Array Value} {below : List Frame} {meth : Method} {c : Code} {Q : State → Prop} {r : (Int32 × SS)}   (hT : ∀ q ∈ tb_X12_isWay (calE (es_X12_isWay)), OKi G A 4 113 6344 ad0 p l e R s0 m args below meth c Q opsS rI r q.1 q.2)   : ∀ (n : Nat) (x1 : Int32) (x2 : Int32) (x3 : Int32) (s : SS), F_X12_isWay_2   n x1 x2 x3 s = some r → Gd G A 4 113 6344 ad0 p l e R s0 m args below meth c Q opsS 2 [some (.ref 74), some (.int x1), some (.int x2), some (.int x3)] [] s := by
  intro n
  induction n with
  | zero =>
    intro x1 x2 x3 s hh
    exact absurd (show (none : Option (Int32 × SS)) = some r from hh) (by simp)
  | succ n ih =>
    intro x1 x2 x3 s hh
    rw [← eq_X12_isWay_2    n x1 x2 x3 s] at hh
    refine ex_good hT (fun pc' ls' st' x' hh => ?_) 38 2 _ [] s hh
    unfold ka_X12_isWay_2 at hh
    cases hb : Nat.beq pc' 2 with
    | true =>
      rw [hb] at hh
      have e9 := beq1 hb
      subst e9
      simp only [cond_true] at hh
      split at hh
      · obtain ⟨g0, hh1⟩ := gd_some hh
        have e0 := veq_of g0
        subst e0
        exact Gd.wk (ih _ _ _ _ hh1) (Lle.eq (Lle.eq (Lle.eq (Lle.eq Lle.nil))))
      · cases hh
    | false =>
      rw [hb] at hh
      simp only [cond_false] at hh
      cases hh

noncomputable def ka_X12_isWay  : Kn SS (Int32 × SS) := fun pc ls st s => bif Nat.beq pc 2 then (match ls, st with
    | [some y0, some (.int x1), some (.int x2), some (.int x3)], [] => (gd (veq y0 (.ref 74)) (F_X12_isWay_2 fuel0 x1 x2 x3 s))
    | _, _ => none) else (none)
set_option maxRecDepth 100000 in
set_option maxHeartbeats 4000000 in
theorem eq_X12_isWay   (a0 : Int32) (a1 : Int32) (s : SS) : ex (tb_X12_isWay (calE (es_X12_isWay))) rI [2] (ka_X12_isWay ) 38 0 [some (.ref 74), some (.int a0), some (.int a1), none] [] s = f_X12_isWay a0 a1 s := by
  rfl
set_option maxRecDepth 100000 in
set_option maxHeartbeats 4000000 in
theorem run_X12_isWay {l : Launch} {G : Gm}   (a0 : Int32) (a1 : Int32) (s : SS) (q : (Int32 × SS)) (h : f_X12_isWay a0 a1 s = some q) (D' : Nat) (hD : 0 ≤ D') : RunsM l G (D' + 1) (md 154) (embS s) [.ref 74, .int a0, .int a1] (some (.int q.1)) (embS q.2) := by
  rw [md_X12_isWay]
  refine runs_Z (plainFor_of_name (by decide +kernel)) (Nat.le_of_ble_eq_true rfl) rfl ?_
  intro A p e R s0 m args below meth c Q ad0 hR X hret
  have X : Cx G A RX12 cX12_isWay 4 p s0 m args c := X
  have hT := tk_X12_isWay X (calE_ok (es := es_X12_isWay) (enn)) (rmD rfl hR) hret
  rw [← eq_X12_isWay   a0 a1 s] at h
  refine ex_good hT (fun pc' ls' st' x' hh => ?_) 38 0 _ [] s h
  unfold ka_X12_isWay at hh
  cases hb : Nat.beq pc' 2 with
  | true =>
    rw [hb] at hh
    have e9 := beq1 hb
    subst e9
    simp only [cond_true] at hh
    split at hh
    · obtain ⟨g0, hh1⟩ := gd_some hh
      have e0 := veq_of g0
      subst e0
      exact Gd.wk (gd_X12_isWay_2 hT  _ _ _ _ _ hh1) (Lle.eq (Lle.eq (Lle.eq (Lle.eq Lle.nil))))
    · cases hh
  | false =>
    rw [hb] at hh
    simp only [cond_false] at hh
    cases hh

noncomputable def en_X12_isWay  : En := fun _ av s k => match av with
  | [.ref r0, .int a0, .int a1] => (gd (Nat.beq r0 74) (bI (f_X12_isWay a0 a1 s) k))
  | _ => none
set_option maxRecDepth 100000 in
set_option maxHeartbeats 4000000 in
theorem en_X12_isWay_ok {l : Launch} {G : Gm} (D : Nat) (hD : 1 ≤ D) : enOK l G D 154 en_X12_isWay := by
  intro ρ av x k r h
  unfold en_X12_isWay at h
  split at h
  · obtain ⟨g0, h⟩ := gd_some h
    obtain ⟨q, h1, h2⟩ := bind_of h
    have e0 := beq1 g0
    subst e0
    obtain ⟨D', rfl⟩ : ∃ D', D = D' + 1 := ⟨D - 1, by omega⟩
    exact ⟨_, _, h2, run_X12_isWay  _ _ _ _ h1 D' (by omega)⟩
  · cases h

/-! HatRankModel way -/
noncomputable def tb_X12_way (cal : Cal SS) : List (Nat × Ins SS) := [(0, e_iload 1 1), (1, e_iflt 52 4), (4, e_aload 0 5), (5, e_iload 1 6), (6, e_iconst (10) 8), (8, e_div aDiv 9), (9, e_callV opsS cal 150 1 12 12), (12, e_ifeq 52 15), (15, e_aload 0 16), (16, e_iload 1 17), (17, e_iconst (10) 19), (19, e_div aRem 20), (20, e_callV opsS cal 150 1 12 23), (23, e_ifeq 52 26), (26, e_iload 1 27), (27, e_iconst (10) 29), (29, e_div aDiv 30), (30, e_iload 1 31), (31, e_iconst (10) 33), (33, e_div aRem 34), (34, e_ceq 52 37), (37, e_aload 0 38), (38, e_iload 1 39), (39, e_iconst (10) 41), (41, e_div aDiv 42), (42, e_iload 1 43), (43, e_iconst (10) 45), (45, e_div aRem 46), (46, e_callV opsS cal 154 2 12 49), (49, e_ifeq 54 52), (52, e_iconst (-1) 53), (53, e_iret), (54, e_aload 0 55), (55, e_getI opsS 12 8 58), (58, e_iconst (12) 60), (60, e_cne 66 63), (63, e_iconst (-3) 65), (65, e_iret), (66, e_aload 0 67), (67, e_getR opsS 12 9 70), (70, e_aload 0 71), (71, e_getI opsS 12 8 74), (74, e_iload 1 75), (75, e_iconst (10) 77), (77, e_div aDiv 78), (78, e_ast opsS 100 (fun v => v) 79), (79, e_aload 0 80), (80, e_getR opsS 12 10 83), (83, e_aload 0 84), (84, e_getI opsS 12 8 87), (87, e_iload 1 88), (88, e_iconst (10) 90), (90, e_div aRem 91), (91, e_ast opsS 100 (fun v => v) 92), (92, e_aload 0 93), (93, e_dup 94), (94, e_getI opsS 12 8 97), (97, e_iconst (1) 98), (98, e_bin aAdd 99), (99, e_putI opsS 12 8 102), (102, e_aload 0 103), (103, e_getI opsS 12 8 106), (106, e_iret)]
set_option maxRecDepth 100000 in
set_option maxHeartbeats 4000000 in
theorem tk_X12_way {ad0 : Nat → Nat} {G : Gm} {A : Nat → Prop} {p : Program} {l : Launch} {e : Env} {R : Room} {s0 : State} {m : MethodId} {args : Array Value} {below : List Frame} {meth : Method} {c : Code} {Q : State → Prop} {ρ : Type} {ret : Option Value → SS → Option ρ} {r : ρ} (X : Cx G A RX12 cX12_way 2 p s0 m args c) {D' : Nat} {cal : Cal SS} (hcal : calOK l G opsS D' cal) (hRm : ∀ k, k ≤ 21 → D' + 1 ≤ R.frames ∧ 8 + (k + 11) + 40 * D' ≤ R.locals) (hret : RetK G A cX12_way 113 6344 ad0 p l e R s0 m args below meth c Q opsS ret r .ireturn okI) : ∀ q ∈ tb_X12_way cal, OKi G A 2 113 6344 ad0 p l e R s0 m args below meth c Q opsS ret r q.1 q.2 :=
    okc (ok_iload_n (j := 1) X (by decide +kernel) rfl rfl) (
    okc (ok_iflt (off := 51) X (by decide +kernel) (by decide) rfl) (
    okc (ok_aload_n (j := 0) X (by decide +kernel) rfl rfl) (
    okc (ok_iload_n (j := 1) X (by decide +kernel) rfl rfl) (
    okc (ok_bipush (n := 10) X (by decide +kernel) rfl rfl) (
    okc (ok_idiv X (by decide +kernel) rfl) (
    okc (ok_callV (ci := 12) (C := RX12) (T := TX12) (N := 63) (Y := (yX12_isPlace, cX12_isPlace, 2, (some .boolean))) X hcal opsS_n md_X12_isPlace rfl (by decide) rfl wc_X12_isPlace wl_X12_144 wi_X12 wm_X12_isPlace wv_X12_isPlace (by decide +kernel) (hRm 2 (by decide)) (by decide +kernel) rfl) (
    okc (ok_ifeq (off := 40) X (by decide +kernel) (by decide) rfl) (
    okc (ok_aload_n (j := 0) X (by decide +kernel) rfl rfl) (
    okc (ok_iload_n (j := 1) X (by decide +kernel) rfl rfl) (
    okc (ok_bipush (n := 10) X (by decide +kernel) rfl rfl) (
    okc (ok_irem X (by decide +kernel) rfl) (
    okc (ok_callV (ci := 12) (C := RX12) (T := TX12) (N := 63) (Y := (yX12_isPlace, cX12_isPlace, 2, (some .boolean))) X hcal opsS_n md_X12_isPlace rfl (by decide) rfl wc_X12_isPlace wl_X12_144 wi_X12 wm_X12_isPlace wv_X12_isPlace (by decide +kernel) (hRm 2 (by decide)) (by decide +kernel) rfl) (
    okc (ok_ifeq (off := 29) X (by decide +kernel) (by decide) rfl) (
    okc (ok_iload_n (j := 1) X (by decide +kernel) rfl rfl) (
    okc (ok_bipush (n := 10) X (by decide +kernel) rfl rfl) (
    okc (ok_idiv X (by decide +kernel) rfl) (
    okc (ok_iload_n (j := 1) X (by decide +kernel) rfl rfl) (
    okc (ok_bipush (n := 10) X (by decide +kernel) rfl rfl) (
    okc (ok_irem X (by decide +kernel) rfl) (
    okc (ok_ceq (off := 18) X (by decide +kernel) (by decide) rfl) (
    okc (ok_aload_n (j := 0) X (by decide +kernel) rfl rfl) (
    okc (ok_iload_n (j := 1) X (by decide +kernel) rfl rfl) (
    okc (ok_bipush (n := 10) X (by decide +kernel) rfl rfl) (
    okc (ok_idiv X (by decide +kernel) rfl) (
    okc (ok_iload_n (j := 1) X (by decide +kernel) rfl rfl) (
    okc (ok_bipush (n := 10) X (by decide +kernel) rfl rfl) (
    okc (ok_irem X (by decide +kernel) rfl) (
    okc (ok_callV (ci := 12) (C := RX12) (T := TX12) (N := 63) (Y := (yX12_isWay, cX12_isWay, 4, (some .boolean))) X hcal opsS_n md_X12_isWay rfl (by decide) rfl wc_X12_isWay wl_X12_148 wi_X12 wm_X12_isWay wv_X12_isWay (by decide +kernel) (hRm 4 (by decide)) (by decide +kernel) rfl) (
    okc (ok_ifeq (off := 5) X (by decide +kernel) (by decide) rfl) (
    okc (ok_iconst (n := -1) X (by decide +kernel) rfl rfl) (
    okc (ok_iret hret (by decide +kernel)) (
    okc (ok_aload_n (j := 0) X (by decide +kernel) rfl rfl) (
    okc (ok_getI (ci := 12) (kf := 8) (idx := 141) (C := RX12) (T := TX12) (N := 63) X rfl (by decide) inX12 (by decide) wf_X12_141 (fun _ _ _ => rfl) (by decide +kernel) rfl) (
    okc (ok_bipush (n := 12) X (by decide +kernel) rfl rfl) (
    okc (ok_cne (off := 6) X (by decide +kernel) (by decide) rfl) (
    okc (ok_bipush (n := -3) X (by decide +kernel) rfl rfl) (
    okc (ok_iret hret (by decide +kernel)) (
    okc (ok_aload_n (j := 0) X (by decide +kernel) rfl rfl) (
    okc (ok_getR (ci := 12) (kf := 9) (idx := 22) (C := RX12) (T := TX12) (N := 63) X rfl (by decide) inX12 (by decide) wf_X12_22 (fun _ _ _ => rfl) (by decide +kernel) rfl) (
    okc (ok_aload_n (j := 0) X (by decide +kernel) rfl rfl) (
    okc (ok_getI (ci := 12) (kf := 8) (idx := 141) (C := RX12) (T := TX12) (N := 63) X rfl (by decide) inX12 (by decide) wf_X12_141 (fun _ _ _ => rfl) (by decide +kernel) rfl) (
    okc (ok_iload_n (j := 1) X (by decide +kernel) rfl rfl) (
    okc (ok_bipush (n := 10) X (by decide +kernel) rfl rfl) (
    okc (ok_idiv X (by decide +kernel) rfl) (
    okc (ok_iast X opsS_ok (by decide +kernel) rfl) (
    okc (ok_aload_n (j := 0) X (by decide +kernel) rfl rfl) (
    okc (ok_getR (ci := 12) (kf := 10) (idx := 25) (C := RX12) (T := TX12) (N := 63) X rfl (by decide) inX12 (by decide) wf_X12_25 (fun _ _ _ => rfl) (by decide +kernel) rfl) (
    okc (ok_aload_n (j := 0) X (by decide +kernel) rfl rfl) (
    okc (ok_getI (ci := 12) (kf := 8) (idx := 141) (C := RX12) (T := TX12) (N := 63) X rfl (by decide) inX12 (by decide) wf_X12_141 (fun _ _ _ => rfl) (by decide +kernel) rfl) (
    okc (ok_iload_n (j := 1) X (by decide +kernel) rfl rfl) (
    okc (ok_bipush (n := 10) X (by decide +kernel) rfl rfl) (
    okc (ok_irem X (by decide +kernel) rfl) (
    okc (ok_iast X opsS_ok (by decide +kernel) rfl) (
    okc (ok_aload_n (j := 0) X (by decide +kernel) rfl rfl) (
    okc (ok_dup X (by decide +kernel) rfl) (
    okc (ok_getI (ci := 12) (kf := 8) (idx := 141) (C := RX12) (T := TX12) (N := 63) X rfl (by decide) inX12 (by decide) wf_X12_141 (fun _ _ _ => rfl) (by decide +kernel) rfl) (
    okc (ok_iconst (n := 1) X (by decide +kernel) rfl rfl) (
    okc (ok_iadd X (by decide +kernel) rfl) (
    okc (ok_putI (ci := 12) (kf := 8) (idx := 141) (C := RX12) (T := TX12) (N := 63) X opsS_ok rfl (by decide) inX12 tyX12_ok nmX12 (by decide) wf_X12_141 rfl (fun _ _ _ => rfl) (by decide +kernel) (by decide +kernel) rfl) (
    okc (ok_aload_n (j := 0) X (by decide +kernel) rfl rfl) (
    okc (ok_getI (ci := 12) (kf := 8) (idx := 141) (C := RX12) (T := TX12) (N := 63) X rfl (by decide) inX12 (by decide) wf_X12_141 (fun _ _ _ => rfl) (by decide +kernel) rfl) (
    okc (ok_iret hret (by decide +kernel)) (
    okn)))))))))))))))))))))))))))))))))))))))))))))))))))))))))))))))
noncomputable def es_X12_way  : List (Nat × En) := [(150, en_X12_isPlace), (154, en_X12_isWay)]
set_option maxRecDepth 100000 in
set_option maxHeartbeats 4000000 in
theorem eq_X12_way   (a0 : Int32) (s : SS) : ex (tb_X12_way (calE (es_X12_way))) rI [] (fun _ _ _ _ => none) 65 0 [some (.ref 74), some (.int a0)] [] s = f_X12_way a0 s := by
  rfl
set_option maxRecDepth 100000 in
set_option maxHeartbeats 4000000 in
theorem run_X12_way {l : Launch} {G : Gm}   (a0 : Int32) (s : SS) (q : (Int32 × SS)) (h : f_X12_way a0 s = some q) (D' : Nat) (hD : 2 ≤ D') : RunsM l G (D' + 1) (md 155) (embS s) [.ref 74, .int a0] (some (.int q.1)) (embS q.2) := by
  rw [md_X12_way]
  refine runs_I (plainFor_of_name (by decide +kernel)) (Nat.le_of_ble_eq_true rfl) rfl ?_
  intro A p e R s0 m args below meth c Q ad0 hR X hret
  have X : Cx G A RX12 cX12_way 2 p s0 m args c := X
  have hT := tk_X12_way X (calE_ok (es := es_X12_way) (enc (en_X12_isPlace_ok _ (by omega)) (enc (en_X12_isWay_ok _ (by omega)) (enn)))) (rmD rfl hR) hret
  rw [← eq_X12_way   a0 s] at h
  refine ex_good hT (fun pc' ls' st' x' hh => ?_) 65 0 _ [] s h
  cases hh

noncomputable def en_X12_way  : En := fun _ av s k => match av with
  | [.ref r0, .int a0] => (gd (Nat.beq r0 74) (bI (f_X12_way a0 s) k))
  | _ => none
set_option maxRecDepth 100000 in
set_option maxHeartbeats 4000000 in
theorem en_X12_way_ok {l : Launch} {G : Gm} (D : Nat) (hD : 3 ≤ D) : enOK l G D 155 en_X12_way := by
  intro ρ av x k r h
  unfold en_X12_way at h
  split at h
  · obtain ⟨g0, h⟩ := gd_some h
    obtain ⟨q, h1, h2⟩ := bind_of h
    have e0 := beq1 g0
    subst e0
    obtain ⟨D', rfl⟩ : ∃ D', D = D' + 1 := ⟨D - 1, by omega⟩
    exact ⟨_, _, h2, run_X12_way  _ _ _ h1 D' (by omega)⟩
  · cases h

/-! HatRankModel addPerson -/
noncomputable def tb_X12_addPerson (cal : Cal SS) : List (Nat × Ins SS) := [(0, e_aload 0 1), (1, e_getR opsS 12 12 4), (4, e_aload 0 5), (5, e_getI opsS 12 11 8), (8, e_iload 1 9), (9, e_ast opsS 100 (fun v => v) 10), (10, e_aload 0 11), (11, e_getR opsS 12 13 14), (14, e_aload 0 15), (15, e_getI opsS 12 11 18), (18, e_iload 2 19), (19, e_ast opsS 100 (fun v => v) 20), (20, e_aload 0 21), (21, e_getR opsS 12 14 24), (24, e_aload 0 25), (25, e_getI opsS 12 11 28), (28, e_iload 3 29), (29, e_ast opsS 100 (fun v => v) 30), (30, e_aload 0 31), (31, e_getR opsS 12 15 34), (34, e_aload 0 35), (35, e_getI opsS 12 11 38), (38, e_iconst (-3) 40), (40, e_ast opsS 100 (fun v => v) 41), (41, e_aload 0 42), (42, e_dup 43), (43, e_getI opsS 12 11 46), (46, e_iconst (1) 47), (47, e_bin aAdd 48), (48, e_putI opsS 12 11 51), (51, e_aload 0 52), (52, e_getI opsS 12 11 55), (55, e_iconst (1) 56), (56, e_bin aSub 57), (57, e_iret)]
set_option maxRecDepth 100000 in
set_option maxHeartbeats 4000000 in
theorem tk_X12_addPerson {ad0 : Nat → Nat} {G : Gm} {A : Nat → Prop} {p : Program} {l : Launch} {e : Env} {R : Room} {s0 : State} {m : MethodId} {args : Array Value} {below : List Frame} {meth : Method} {c : Code} {Q : State → Prop} {ρ : Type} {ret : Option Value → SS → Option ρ} {r : ρ} (X : Cx G A RX12 cX12_addPerson 4 p s0 m args c) {D' : Nat} {cal : Cal SS} (hcal : calOK l G opsS D' cal) (hRm : ∀ k, k ≤ 21 → D' + 1 ≤ R.frames ∧ 8 + (k + 11) + 40 * D' ≤ R.locals) (hret : RetK G A cX12_addPerson 113 6344 ad0 p l e R s0 m args below meth c Q opsS ret r .ireturn okI) : ∀ q ∈ tb_X12_addPerson cal, OKi G A 4 113 6344 ad0 p l e R s0 m args below meth c Q opsS ret r q.1 q.2 :=
    okc (ok_aload_n (j := 0) X (by decide +kernel) rfl rfl) (
    okc (ok_getR (ci := 12) (kf := 12) (idx := 28) (C := RX12) (T := TX12) (N := 63) X rfl (by decide) inX12 (by decide) wf_X12_28 (fun _ _ _ => rfl) (by decide +kernel) rfl) (
    okc (ok_aload_n (j := 0) X (by decide +kernel) rfl rfl) (
    okc (ok_getI (ci := 12) (kf := 11) (idx := 138) (C := RX12) (T := TX12) (N := 63) X rfl (by decide) inX12 (by decide) wf_X12_138 (fun _ _ _ => rfl) (by decide +kernel) rfl) (
    okc (ok_iload_n (j := 1) X (by decide +kernel) rfl rfl) (
    okc (ok_iast X opsS_ok (by decide +kernel) rfl) (
    okc (ok_aload_n (j := 0) X (by decide +kernel) rfl rfl) (
    okc (ok_getR (ci := 12) (kf := 13) (idx := 31) (C := RX12) (T := TX12) (N := 63) X rfl (by decide) inX12 (by decide) wf_X12_31 (fun _ _ _ => rfl) (by decide +kernel) rfl) (
    okc (ok_aload_n (j := 0) X (by decide +kernel) rfl rfl) (
    okc (ok_getI (ci := 12) (kf := 11) (idx := 138) (C := RX12) (T := TX12) (N := 63) X rfl (by decide) inX12 (by decide) wf_X12_138 (fun _ _ _ => rfl) (by decide +kernel) rfl) (
    okc (ok_iload_n (j := 2) X (by decide +kernel) rfl rfl) (
    okc (ok_iast X opsS_ok (by decide +kernel) rfl) (
    okc (ok_aload_n (j := 0) X (by decide +kernel) rfl rfl) (
    okc (ok_getR (ci := 12) (kf := 14) (idx := 34) (C := RX12) (T := TX12) (N := 63) X rfl (by decide) inX12 (by decide) wf_X12_34 (fun _ _ _ => rfl) (by decide +kernel) rfl) (
    okc (ok_aload_n (j := 0) X (by decide +kernel) rfl rfl) (
    okc (ok_getI (ci := 12) (kf := 11) (idx := 138) (C := RX12) (T := TX12) (N := 63) X rfl (by decide) inX12 (by decide) wf_X12_138 (fun _ _ _ => rfl) (by decide +kernel) rfl) (
    okc (ok_iload_n (j := 3) X (by decide +kernel) rfl rfl) (
    okc (ok_iast X opsS_ok (by decide +kernel) rfl) (
    okc (ok_aload_n (j := 0) X (by decide +kernel) rfl rfl) (
    okc (ok_getR (ci := 12) (kf := 15) (idx := 37) (C := RX12) (T := TX12) (N := 63) X rfl (by decide) inX12 (by decide) wf_X12_37 (fun _ _ _ => rfl) (by decide +kernel) rfl) (
    okc (ok_aload_n (j := 0) X (by decide +kernel) rfl rfl) (
    okc (ok_getI (ci := 12) (kf := 11) (idx := 138) (C := RX12) (T := TX12) (N := 63) X rfl (by decide) inX12 (by decide) wf_X12_138 (fun _ _ _ => rfl) (by decide +kernel) rfl) (
    okc (ok_bipush (n := -3) X (by decide +kernel) rfl rfl) (
    okc (ok_iast X opsS_ok (by decide +kernel) rfl) (
    okc (ok_aload_n (j := 0) X (by decide +kernel) rfl rfl) (
    okc (ok_dup X (by decide +kernel) rfl) (
    okc (ok_getI (ci := 12) (kf := 11) (idx := 138) (C := RX12) (T := TX12) (N := 63) X rfl (by decide) inX12 (by decide) wf_X12_138 (fun _ _ _ => rfl) (by decide +kernel) rfl) (
    okc (ok_iconst (n := 1) X (by decide +kernel) rfl rfl) (
    okc (ok_iadd X (by decide +kernel) rfl) (
    okc (ok_putI (ci := 12) (kf := 11) (idx := 138) (C := RX12) (T := TX12) (N := 63) X opsS_ok rfl (by decide) inX12 tyX12_ok nmX12 (by decide) wf_X12_138 rfl (fun _ _ _ => rfl) (by decide +kernel) (by decide +kernel) rfl) (
    okc (ok_aload_n (j := 0) X (by decide +kernel) rfl rfl) (
    okc (ok_getI (ci := 12) (kf := 11) (idx := 138) (C := RX12) (T := TX12) (N := 63) X rfl (by decide) inX12 (by decide) wf_X12_138 (fun _ _ _ => rfl) (by decide +kernel) rfl) (
    okc (ok_iconst (n := 1) X (by decide +kernel) rfl rfl) (
    okc (ok_isub X (by decide +kernel) rfl) (
    okc (ok_iret hret (by decide +kernel)) (
    okn)))))))))))))))))))))))))))))))))))
noncomputable def es_X12_addPerson  : List (Nat × En) := []
set_option maxRecDepth 100000 in
set_option maxHeartbeats 4000000 in
theorem eq_X12_addPerson   (a0 : Int32) (a1 : Int32) (a2 : Int32) (s : SS) : ex (tb_X12_addPerson (calE (es_X12_addPerson))) rI [] (fun _ _ _ _ => none) 37 0 [some (.ref 74), some (.int a0), some (.int a1), some (.int a2)] [] s = f_X12_addPerson a0 a1 a2 s := by
  rfl
set_option maxRecDepth 100000 in
set_option maxHeartbeats 4000000 in
theorem run_X12_addPerson {l : Launch} {G : Gm}   (a0 : Int32) (a1 : Int32) (a2 : Int32) (s : SS) (q : (Int32 × SS)) (h : f_X12_addPerson a0 a1 a2 s = some q) (D' : Nat) (hD : 0 ≤ D') : RunsM l G (D' + 1) (md 156) (embS s) [.ref 74, .int a0, .int a1, .int a2] (some (.int q.1)) (embS q.2) := by
  rw [md_X12_addPerson]
  refine runs_I (plainFor_of_name (by decide +kernel)) (Nat.le_of_ble_eq_true rfl) rfl ?_
  intro A p e R s0 m args below meth c Q ad0 hR X hret
  have X : Cx G A RX12 cX12_addPerson 4 p s0 m args c := X
  have hT := tk_X12_addPerson X (calE_ok (es := es_X12_addPerson) (enn)) (rmD rfl hR) hret
  rw [← eq_X12_addPerson   a0 a1 a2 s] at h
  refine ex_good hT (fun pc' ls' st' x' hh => ?_) 37 0 _ [] s h
  cases hh

noncomputable def en_X12_addPerson  : En := fun _ av s k => match av with
  | [.ref r0, .int a0, .int a1, .int a2] => (gd (Nat.beq r0 74) (bI (f_X12_addPerson a0 a1 a2 s) k))
  | _ => none
set_option maxRecDepth 100000 in
set_option maxHeartbeats 4000000 in
theorem en_X12_addPerson_ok {l : Launch} {G : Gm} (D : Nat) (hD : 1 ≤ D) : enOK l G D 156 en_X12_addPerson := by
  intro ρ av x k r h
  unfold en_X12_addPerson at h
  split at h
  · obtain ⟨g0, h⟩ := gd_some h
    obtain ⟨q, h1, h2⟩ := bind_of h
    have e0 := beq1 g0
    subst e0
    obtain ⟨D', rfl⟩ : ∃ D', D = D' + 1 := ⟨D - 1, by omega⟩
    exact ⟨_, _, h2, run_X12_addPerson  _ _ _ _ _ h1 D' (by omega)⟩
  · cases h

/-! HatRankModel person -/
noncomputable def tb_X12_person (cal : Cal SS) : List (Nat × Ins SS) := [(0, e_iload 1 1), (1, e_iconst (0) 2), (2, e_iconst (99) 4), (4, e_callS cal 149 3 7), (7, e_ifeq 18 10), (10, e_aload 0 11), (11, e_iload 2 12), (12, e_callV opsS cal 150 1 12 15), (15, e_ifne 20 18), (18, e_iconst (-1) 19), (19, e_iret), (20, e_aload 0 21), (21, e_getI opsS 12 11 24), (24, e_iconst (6) 26), (26, e_cne 34 29), (29, e_iconst (-3) 31), (31, e_goto 47), (34, e_aload 0 35), (35, e_iload 1 36), (36, e_iconst (10) 38), (38, e_div aDiv 39), (39, e_iload 1 40), (40, e_iconst (10) 42), (42, e_div aRem 43), (43, e_iload 2 44), (44, e_callV opsS cal 156 3 12 47), (47, e_iret)]
set_option maxRecDepth 100000 in
set_option maxHeartbeats 4000000 in
theorem tk_X12_person {ad0 : Nat → Nat} {G : Gm} {A : Nat → Prop} {p : Program} {l : Launch} {e : Env} {R : Room} {s0 : State} {m : MethodId} {args : Array Value} {below : List Frame} {meth : Method} {c : Code} {Q : State → Prop} {ρ : Type} {ret : Option Value → SS → Option ρ} {r : ρ} (X : Cx G A RX12 cX12_person 3 p s0 m args c) {D' : Nat} {cal : Cal SS} (hcal : calOK l G opsS D' cal) (hRm : ∀ k, k ≤ 21 → D' + 1 ≤ R.frames ∧ 8 + (k + 11) + 40 * D' ≤ R.locals) (hret : RetK G A cX12_person 113 6344 ad0 p l e R s0 m args below meth c Q opsS ret r .ireturn okI) : ∀ q ∈ tb_X12_person cal, OKi G A 3 113 6344 ad0 p l e R s0 m args below meth c Q opsS ret r q.1 q.2 :=
    okc (ok_iload_n (j := 1) X (by decide +kernel) rfl rfl) (
    okc (ok_iconst (n := 0) X (by decide +kernel) rfl rfl) (
    okc (ok_bipush (n := 99) X (by decide +kernel) rfl rfl) (
    okc (ok_callS (Y := (yX12_in, cX12_in, 3, (some .boolean))) X hcal opsS_n md_X12_in wc_X12_in wl_X12_134 wi_X12 ws_X12_in (by decide +kernel) (hRm 3 (by decide)) (by decide +kernel) rfl) (
    okc (ok_ifeq (off := 11) X (by decide +kernel) (by decide) rfl) (
    okc (ok_aload_n (j := 0) X (by decide +kernel) rfl rfl) (
    okc (ok_iload_n (j := 2) X (by decide +kernel) rfl rfl) (
    okc (ok_callV (ci := 12) (C := RX12) (T := TX12) (N := 63) (Y := (yX12_isPlace, cX12_isPlace, 2, (some .boolean))) X hcal opsS_n md_X12_isPlace rfl (by decide) rfl wc_X12_isPlace wl_X12_144 wi_X12 wm_X12_isPlace wv_X12_isPlace (by decide +kernel) (hRm 2 (by decide)) (by decide +kernel) rfl) (
    okc (ok_ifne (off := 5) X (by decide +kernel) (by decide) rfl) (
    okc (ok_iconst (n := -1) X (by decide +kernel) rfl rfl) (
    okc (ok_iret hret (by decide +kernel)) (
    okc (ok_aload_n (j := 0) X (by decide +kernel) rfl rfl) (
    okc (ok_getI (ci := 12) (kf := 11) (idx := 138) (C := RX12) (T := TX12) (N := 63) X rfl (by decide) inX12 (by decide) wf_X12_138 (fun _ _ _ => rfl) (by decide +kernel) rfl) (
    okc (ok_bipush (n := 6) X (by decide +kernel) rfl rfl) (
    okc (ok_cne (off := 8) X (by decide +kernel) (by decide) rfl) (
    okc (ok_bipush (n := -3) X (by decide +kernel) rfl rfl) (
    okc (ok_goto (off := 16) X (by decide +kernel) (by decide)) (
    okc (ok_aload_n (j := 0) X (by decide +kernel) rfl rfl) (
    okc (ok_iload_n (j := 1) X (by decide +kernel) rfl rfl) (
    okc (ok_bipush (n := 10) X (by decide +kernel) rfl rfl) (
    okc (ok_idiv X (by decide +kernel) rfl) (
    okc (ok_iload_n (j := 1) X (by decide +kernel) rfl rfl) (
    okc (ok_bipush (n := 10) X (by decide +kernel) rfl rfl) (
    okc (ok_irem X (by decide +kernel) rfl) (
    okc (ok_iload_n (j := 2) X (by decide +kernel) rfl rfl) (
    okc (ok_callV (ci := 12) (C := RX12) (T := TX12) (N := 63) (Y := (yX12_addPerson, cX12_addPerson, 4, (some .int))) X hcal opsS_n md_X12_addPerson rfl (by decide) rfl wc_X12_addPerson wl_X12_152 wi_X12 wm_X12_addPerson wv_X12_addPerson (by decide +kernel) (hRm 4 (by decide)) (by decide +kernel) rfl) (
    okc (ok_iret hret (by decide +kernel)) (
    okn)))))))))))))))))))))))))))
noncomputable def es_X12_person  : List (Nat × En) := [(149, en_X12_in), (150, en_X12_isPlace), (156, en_X12_addPerson)]
set_option maxRecDepth 100000 in
set_option maxHeartbeats 4000000 in
theorem eq_X12_person   (a0 : Int32) (a1 : Int32) (s : SS) : ex (tb_X12_person (calE (es_X12_person))) rI [] (fun _ _ _ _ => none) 29 0 [some (.ref 74), some (.int a0), some (.int a1)] [] s = f_X12_person a0 a1 s := by
  rfl
set_option maxRecDepth 100000 in
set_option maxHeartbeats 4000000 in
theorem run_X12_person {l : Launch} {G : Gm}   (a0 : Int32) (a1 : Int32) (s : SS) (q : (Int32 × SS)) (h : f_X12_person a0 a1 s = some q) (D' : Nat) (hD : 2 ≤ D') : RunsM l G (D' + 1) (md 157) (embS s) [.ref 74, .int a0, .int a1] (some (.int q.1)) (embS q.2) := by
  rw [md_X12_person]
  refine runs_I (plainFor_of_name (by decide +kernel)) (Nat.le_of_ble_eq_true rfl) rfl ?_
  intro A p e R s0 m args below meth c Q ad0 hR X hret
  have X : Cx G A RX12 cX12_person 3 p s0 m args c := X
  have hT := tk_X12_person X (calE_ok (es := es_X12_person) (enc (en_X12_in_ok _ (by omega)) (enc (en_X12_isPlace_ok _ (by omega)) (enc (en_X12_addPerson_ok _ (by omega)) (enn))))) (rmD rfl hR) hret
  rw [← eq_X12_person   a0 a1 s] at h
  refine ex_good hT (fun pc' ls' st' x' hh => ?_) 29 0 _ [] s h
  cases hh

noncomputable def en_X12_person  : En := fun _ av s k => match av with
  | [.ref r0, .int a0, .int a1] => (gd (Nat.beq r0 74) (bI (f_X12_person a0 a1 s) k))
  | _ => none
set_option maxRecDepth 100000 in
set_option maxHeartbeats 4000000 in
theorem en_X12_person_ok {l : Launch} {G : Gm} (D : Nat) (hD : 3 ≤ D) : enOK l G D 157 en_X12_person := by
  intro ρ av x k r h
  unfold en_X12_person at h
  split at h
  · obtain ⟨g0, h⟩ := gd_some h
    obtain ⟨q, h1, h2⟩ := bind_of h
    have e0 := beq1 g0
    subst e0
    obtain ⟨D', rfl⟩ : ∃ D', D = D' + 1 := ⟨D - 1, by omega⟩
    exact ⟨_, _, h2, run_X12_person  _ _ _ _ h1 D' (by omega)⟩
  · cases h

/-! HatRankModel isShelf -/
noncomputable def tb_X12_isShelf (cal : Cal SS) : List (Nat × Ins SS) := [(0, e_iload 0 1), (1, e_iconst (0) 2), (2, e_iconst (5) 3), (3, e_callS cal 149 3 6), (6, e_zret)]
set_option maxRecDepth 100000 in
set_option maxHeartbeats 4000000 in
theorem tk_X12_isShelf {ad0 : Nat → Nat} {G : Gm} {A : Nat → Prop} {p : Program} {l : Launch} {e : Env} {R : Room} {s0 : State} {m : MethodId} {args : Array Value} {below : List Frame} {meth : Method} {c : Code} {Q : State → Prop} {ρ : Type} {ret : Option Value → SS → Option ρ} {r : ρ} (X : Cx G A RX12 cX12_isShelf 1 p s0 m args c) {D' : Nat} {cal : Cal SS} (hcal : calOK l G opsS D' cal) (hRm : ∀ k, k ≤ 21 → D' + 1 ≤ R.frames ∧ 8 + (k + 11) + 40 * D' ≤ R.locals) (hret : RetK G A cX12_isShelf 113 6344 ad0 p l e R s0 m args below meth c Q opsS ret r .ireturn okZ) : ∀ q ∈ tb_X12_isShelf cal, OKi G A 1 113 6344 ad0 p l e R s0 m args below meth c Q opsS ret r q.1 q.2 :=
    okc (ok_iload_n (j := 0) X (by decide +kernel) rfl rfl) (
    okc (ok_iconst (n := 0) X (by decide +kernel) rfl rfl) (
    okc (ok_iconst (n := 5) X (by decide +kernel) rfl rfl) (
    okc (ok_callS (Y := (yX12_in, cX12_in, 3, (some .boolean))) X hcal opsS_n md_X12_in wc_X12_in wl_X12_134 wi_X12 ws_X12_in (by decide +kernel) (hRm 3 (by decide)) (by decide +kernel) rfl) (
    okc (ok_zret hret (by decide +kernel)) (
    okn)))))
noncomputable def es_X12_isShelf  : List (Nat × En) := [(149, en_X12_in)]
set_option maxRecDepth 100000 in
set_option maxHeartbeats 4000000 in
theorem eq_X12_isShelf   (a0 : Int32) (s : SS) : ex (tb_X12_isShelf (calE (es_X12_isShelf))) rI [] (fun _ _ _ _ => none) 7 0 [some (.int a0)] [] s = f_X12_isShelf a0 s := by
  rfl
set_option maxRecDepth 100000 in
set_option maxHeartbeats 4000000 in
theorem run_X12_isShelf {l : Launch} {G : Gm}   (a0 : Int32) (s : SS) (q : (Int32 × SS)) (h : f_X12_isShelf a0 s = some q) (D' : Nat) (hD : 1 ≤ D') : RunsM l G (D' + 1) (md 240) (embS s) [.int a0] (some (.int q.1)) (embS q.2) := by
  rw [md_X12_isShelf]
  refine runs_Z (plainFor_of_name (by decide +kernel)) (Nat.le_of_ble_eq_true rfl) rfl ?_
  intro A p e R s0 m args below meth c Q ad0 hR X hret
  have X : Cx G A RX12 cX12_isShelf 1 p s0 m args c := X
  have hT := tk_X12_isShelf X (calE_ok (es := es_X12_isShelf) (enc (en_X12_in_ok _ (by omega)) (enn))) (rmD rfl hR) hret
  rw [← eq_X12_isShelf   a0 s] at h
  refine ex_good hT (fun pc' ls' st' x' hh => ?_) 7 0 _ [] s h
  cases hh

noncomputable def en_X12_isShelf  : En := fun _ av s k => match av with
  | [.int a0] => (bI (f_X12_isShelf a0 s) k)
  | _ => none
set_option maxRecDepth 100000 in
set_option maxHeartbeats 4000000 in
theorem en_X12_isShelf_ok {l : Launch} {G : Gm} (D : Nat) (hD : 2 ≤ D) : enOK l G D 240 en_X12_isShelf := by
  intro ρ av x k r h
  unfold en_X12_isShelf at h
  split at h
  · obtain ⟨q, h1, h2⟩ := bind_of h
    obtain ⟨D', rfl⟩ : ∃ D', D = D' + 1 := ⟨D - 1, by omega⟩
    exact ⟨_, _, h2, run_X12_isShelf  _ _ _ h1 D' (by omega)⟩
  · cases h

/-! HatRankModel people -/
noncomputable def tb_X12_people (cal : Cal SS) : List (Nat × Ins SS) := [(0, e_iload 1 1), (1, e_callS cal 240 1 4), (4, e_ifeq 17 7), (7, e_iload 3 8), (8, e_iconst (1) 9), (9, e_iconst (6) 11), (11, e_callS cal 149 3 14), (14, e_ifne 19 17), (17, e_iconst (-1) 18), (18, e_iret), (19, e_aload 0 20), (20, e_getR opsS 12 59 23), (23, e_iload 1 24), (24, e_ald opsS 100 25), (25, e_iconst (-1) 26), (26, e_ceq 43 29), (29, e_aload 0 30), (30, e_getR opsS 12 59 33), (33, e_iload 1 34), (34, e_ald opsS 100 35), (35, e_iconst (-2) 37), (37, e_ceq 43 40), (40, e_iconst (-12) 42), (42, e_iret), (43, e_aload 0 44), (44, e_getR opsS 12 59 47), (47, e_iload 1 48), (48, e_ald opsS 100 49), (49, e_iconst (-1) 50), (50, e_cne 55 53), (53, e_iconst (0) 54), (54, e_iret), (55, e_iconst (0) 56), (56, e_istore 4 58), (58, e_iload 4 60), (60, e_iload 3 61), (61, e_cge 215 64), (64, e_iload 2 65), (65, e_i2l 66), (66, e_iconst (3) 67), (67, e_iload 4 69), (69, e_bin aMul 70), (70, e_i2l 71), (71, e_lbin lAdd 72), (72, e_lstore 5 74), (74, e_lload 5 76), (76, e_lconst (0) 77), (77, e_lcmp 78), (78, e_iflt 107 81), (81, e_lload 5 83), (83, e_lconst (2) 86), (86, e_lbin lAdd 87), (87, e_aload 0 88), (88, e_getR opsS 12 60 91), (91, e_iload 1 92), (92, e_ald opsS 100 93), (93, e_i2l 94), (94, e_lcmp 95), (95, e_ifge 107 98), (98, e_aload 0 99), (99, e_getI opsS 12 11 102), (102, e_iconst (6) 104), (104, e_cne 110 107), (107, e_iload 4 109), (109, e_iret), (110, e_iconst (60) 112), (112, e_iload 1 113), (113, e_bin aMul 114), (114, e_lload 5 116), (116, e_l2i 117), (117, e_bin aAdd 118), (118, e_istore 7 120), (120, e_aload 0 121), (121, e_getR opsS 12 61 124), (124, e_iload 7 126), (126, e_lald opsS 127), (127, e_l2i 128), (128, e_iconst (0) 129), (129, e_iconst (9) 131), (131, e_callS cal 149 3 134), (134, e_ifeq 173 137), (137, e_aload 0 138), (138, e_getR opsS 12 61 141), (141, e_iload 7 143), (143, e_iconst (1) 144), (144, e_bin aAdd 145), (145, e_lald opsS 146), (146, e_l2i 147), (147, e_iconst (0) 148), (148, e_iconst (9) 150), (150, e_callS cal 149 3 153), (153, e_ifeq 173 156), (156, e_aload 0 157), (157, e_aload 0 158), (158, e_getR opsS 12 61 161), (161, e_iload 7 163), (163, e_iconst (2) 164), (164, e_bin aAdd 165), (165, e_lald opsS 166), (166, e_l2i 167), (167, e_callV opsS cal 150 1 12 170), (170, e_ifne 176 173), (173, e_iload 4 175), (175, e_iret), (176, e_aload 0 177), (177, e_aload 0 178), (178, e_getR opsS 12 61 181), (181, e_iload 7 183), (183, e_lald opsS 184), (184, e_l2i 185), (185, e_aload 0 186), (186, e_getR opsS 12 61 189), (189, e_iload 7 191), (191, e_iconst (1) 192), (192, e_bin aAdd 193), (193, e_lald opsS 194), (194, e_l2i 195), (195, e_aload 0 196), (196, e_getR opsS 12 61 199), (199, e_iload 7 201), (201, e_iconst (2) 202), (202, e_bin aAdd 203), (203, e_lald opsS 204), (204, e_l2i 205), (205, e_callV opsS cal 156 3 12 208), (208, e_pop 209), (209, e_iinc 4 (1) 212), (212, e_goto 58), (215, e_iload 3 216), (216, e_iret)]
set_option maxRecDepth 100000 in
set_option maxHeartbeats 4000000 in
theorem tk_X12_people {ad0 : Nat → Nat} {G : Gm} {A : Nat → Prop} {p : Program} {l : Launch} {e : Env} {R : Room} {s0 : State} {m : MethodId} {args : Array Value} {below : List Frame} {meth : Method} {c : Code} {Q : State → Prop} {ρ : Type} {ret : Option Value → SS → Option ρ} {r : ρ} (X : Cx G A RX12 cX12_people 8 p s0 m args c) {D' : Nat} {cal : Cal SS} (hcal : calOK l G opsS D' cal) (hRm : ∀ k, k ≤ 21 → D' + 1 ≤ R.frames ∧ 8 + (k + 11) + 40 * D' ≤ R.locals) (hret : RetK G A cX12_people 113 6344 ad0 p l e R s0 m args below meth c Q opsS ret r .ireturn okI) : ∀ q ∈ tb_X12_people cal, OKi G A 8 113 6344 ad0 p l e R s0 m args below meth c Q opsS ret r q.1 q.2 :=
    okc (ok_iload_n (j := 1) X (by decide +kernel) rfl rfl) (
    okc (ok_callS (Y := (yX12_isShelf, cX12_isShelf, 1, (some .boolean))) X hcal opsS_n md_X12_isShelf wc_X12_isShelf wl_X12_156 wi_X12 ws_X12_isShelf (by decide +kernel) (hRm 1 (by decide)) (by decide +kernel) rfl) (
    okc (ok_ifeq (off := 13) X (by decide +kernel) (by decide) rfl) (
    okc (ok_iload_n (j := 3) X (by decide +kernel) rfl rfl) (
    okc (ok_iconst (n := 1) X (by decide +kernel) rfl rfl) (
    okc (ok_bipush (n := 6) X (by decide +kernel) rfl rfl) (
    okc (ok_callS (Y := (yX12_in, cX12_in, 3, (some .boolean))) X hcal opsS_n md_X12_in wc_X12_in wl_X12_134 wi_X12 ws_X12_in (by decide +kernel) (hRm 3 (by decide)) (by decide +kernel) rfl) (
    okc (ok_ifne (off := 5) X (by decide +kernel) (by decide) rfl) (
    okc (ok_iconst (n := -1) X (by decide +kernel) rfl rfl) (
    okc (ok_iret hret (by decide +kernel)) (
    okc (ok_aload_n (j := 0) X (by decide +kernel) rfl rfl) (
    okc (ok_getR (ci := 12) (kf := 59) (idx := 114) (C := RX12) (T := TX12) (N := 63) X rfl (by decide) inX12 (by decide) wf_X12_114 (fun _ _ _ => rfl) (by decide +kernel) rfl) (
    okc (ok_iload_n (j := 1) X (by decide +kernel) rfl rfl) (
    okc (ok_iald X (by decide +kernel) rfl) (
    okc (ok_iconst (n := -1) X (by decide +kernel) rfl rfl) (
    okc (ok_ceq (off := 17) X (by decide +kernel) (by decide) rfl) (
    okc (ok_aload_n (j := 0) X (by decide +kernel) rfl rfl) (
    okc (ok_getR (ci := 12) (kf := 59) (idx := 114) (C := RX12) (T := TX12) (N := 63) X rfl (by decide) inX12 (by decide) wf_X12_114 (fun _ _ _ => rfl) (by decide +kernel) rfl) (
    okc (ok_iload_n (j := 1) X (by decide +kernel) rfl rfl) (
    okc (ok_iald X (by decide +kernel) rfl) (
    okc (ok_bipush (n := -2) X (by decide +kernel) rfl rfl) (
    okc (ok_ceq (off := 6) X (by decide +kernel) (by decide) rfl) (
    okc (ok_bipush (n := -12) X (by decide +kernel) rfl rfl) (
    okc (ok_iret hret (by decide +kernel)) (
    okc (ok_aload_n (j := 0) X (by decide +kernel) rfl rfl) (
    okc (ok_getR (ci := 12) (kf := 59) (idx := 114) (C := RX12) (T := TX12) (N := 63) X rfl (by decide) inX12 (by decide) wf_X12_114 (fun _ _ _ => rfl) (by decide +kernel) rfl) (
    okc (ok_iload_n (j := 1) X (by decide +kernel) rfl rfl) (
    okc (ok_iald X (by decide +kernel) rfl) (
    okc (ok_iconst (n := -1) X (by decide +kernel) rfl rfl) (
    okc (ok_cne (off := 5) X (by decide +kernel) (by decide) rfl) (
    okc (ok_iconst (n := 0) X (by decide +kernel) rfl rfl) (
    okc (ok_iret hret (by decide +kernel)) (
    okc (ok_iconst (n := 0) X (by decide +kernel) rfl rfl) (
    okc (ok_istore X (by decide +kernel) rfl) (
    okc (ok_iload X (by decide +kernel) rfl) (
    okc (ok_iload_n (j := 3) X (by decide +kernel) rfl rfl) (
    okc (ok_cge (off := 154) X (by decide +kernel) (by decide) rfl) (
    okc (ok_iload_n (j := 2) X (by decide +kernel) rfl rfl) (
    okc (ok_i2l X (by decide +kernel) rfl) (
    okc (ok_iconst (n := 3) X (by decide +kernel) rfl rfl) (
    okc (ok_iload X (by decide +kernel) rfl) (
    okc (ok_imul X (by decide +kernel) rfl) (
    okc (ok_i2l X (by decide +kernel) rfl) (
    okc (ok_ladd X (by decide +kernel) rfl) (
    okc (ok_lstore X (by decide +kernel) rfl) (
    okc (ok_lload X (by decide +kernel) rfl) (
    okc (ok_lconst (n := 0) X (by decide +kernel) rfl rfl) (
    okc (ok_lcmp X (by decide +kernel) rfl) (
    okc (ok_iflt (off := 29) X (by decide +kernel) (by decide) rfl) (
    okc (ok_lload X (by decide +kernel) rfl) (
    okc (ok_ldc2 (i := 159) X (by decide +kernel) wk_X12_159 rfl) (
    okc (ok_ladd X (by decide +kernel) rfl) (
    okc (ok_aload_n (j := 0) X (by decide +kernel) rfl rfl) (
    okc (ok_getR (ci := 12) (kf := 60) (idx := 117) (C := RX12) (T := TX12) (N := 63) X rfl (by decide) inX12 (by decide) wf_X12_117 (fun _ _ _ => rfl) (by decide +kernel) rfl) (
    okc (ok_iload_n (j := 1) X (by decide +kernel) rfl rfl) (
    okc (ok_iald X (by decide +kernel) rfl) (
    okc (ok_i2l X (by decide +kernel) rfl) (
    okc (ok_lcmp X (by decide +kernel) rfl) (
    okc (ok_ifge (off := 12) X (by decide +kernel) (by decide) rfl) (
    okc (ok_aload_n (j := 0) X (by decide +kernel) rfl rfl) (
    okc (ok_getI (ci := 12) (kf := 11) (idx := 138) (C := RX12) (T := TX12) (N := 63) X rfl (by decide) inX12 (by decide) wf_X12_138 (fun _ _ _ => rfl) (by decide +kernel) rfl) (
    okc (ok_bipush (n := 6) X (by decide +kernel) rfl rfl) (
    okc (ok_cne (off := 6) X (by decide +kernel) (by decide) rfl) (
    okc (ok_iload X (by decide +kernel) rfl) (
    okc (ok_iret hret (by decide +kernel)) (
    okc (ok_bipush (n := 60) X (by decide +kernel) rfl rfl) (
    okc (ok_iload_n (j := 1) X (by decide +kernel) rfl rfl) (
    okc (ok_imul X (by decide +kernel) rfl) (
    okc (ok_lload X (by decide +kernel) rfl) (
    okc (ok_l2i X (by decide +kernel) rfl) (
    okc (ok_iadd X (by decide +kernel) rfl) (
    okc (ok_istore X (by decide +kernel) rfl) (
    okc (ok_aload_n (j := 0) X (by decide +kernel) rfl rfl) (
    okc (ok_getR (ci := 12) (kf := 61) (idx := 120) (C := RX12) (T := TX12) (N := 63) X rfl (by decide) inX12 (by decide) wf_X12_120 (fun _ _ _ => rfl) (by decide +kernel) rfl) (
    okc (ok_iload X (by decide +kernel) rfl) (
    okc (ok_lald X (by decide +kernel) rfl) (
    okc (ok_l2i X (by decide +kernel) rfl) (
    okc (ok_iconst (n := 0) X (by decide +kernel) rfl rfl) (
    okc (ok_bipush (n := 9) X (by decide +kernel) rfl rfl) (
    okc (ok_callS (Y := (yX12_in, cX12_in, 3, (some .boolean))) X hcal opsS_n md_X12_in wc_X12_in wl_X12_134 wi_X12 ws_X12_in (by decide +kernel) (hRm 3 (by decide)) (by decide +kernel) rfl) (
    okc (ok_ifeq (off := 39) X (by decide +kernel) (by decide) rfl) (
    okc (ok_aload_n (j := 0) X (by decide +kernel) rfl rfl) (
    okc (ok_getR (ci := 12) (kf := 61) (idx := 120) (C := RX12) (T := TX12) (N := 63) X rfl (by decide) inX12 (by decide) wf_X12_120 (fun _ _ _ => rfl) (by decide +kernel) rfl) (
    okc (ok_iload X (by decide +kernel) rfl) (
    okc (ok_iconst (n := 1) X (by decide +kernel) rfl rfl) (
    okc (ok_iadd X (by decide +kernel) rfl) (
    okc (ok_lald X (by decide +kernel) rfl) (
    okc (ok_l2i X (by decide +kernel) rfl) (
    okc (ok_iconst (n := 0) X (by decide +kernel) rfl rfl) (
    okc (ok_bipush (n := 9) X (by decide +kernel) rfl rfl) (
    okc (ok_callS (Y := (yX12_in, cX12_in, 3, (some .boolean))) X hcal opsS_n md_X12_in wc_X12_in wl_X12_134 wi_X12 ws_X12_in (by decide +kernel) (hRm 3 (by decide)) (by decide +kernel) rfl) (
    okc (ok_ifeq (off := 20) X (by decide +kernel) (by decide) rfl) (
    okc (ok_aload_n (j := 0) X (by decide +kernel) rfl rfl) (
    okc (ok_aload_n (j := 0) X (by decide +kernel) rfl rfl) (
    okc (ok_getR (ci := 12) (kf := 61) (idx := 120) (C := RX12) (T := TX12) (N := 63) X rfl (by decide) inX12 (by decide) wf_X12_120 (fun _ _ _ => rfl) (by decide +kernel) rfl) (
    okc (ok_iload X (by decide +kernel) rfl) (
    okc (ok_iconst (n := 2) X (by decide +kernel) rfl rfl) (
    okc (ok_iadd X (by decide +kernel) rfl) (
    okc (ok_lald X (by decide +kernel) rfl) (
    okc (ok_l2i X (by decide +kernel) rfl) (
    okc (ok_callV (ci := 12) (C := RX12) (T := TX12) (N := 63) (Y := (yX12_isPlace, cX12_isPlace, 2, (some .boolean))) X hcal opsS_n md_X12_isPlace rfl (by decide) rfl wc_X12_isPlace wl_X12_144 wi_X12 wm_X12_isPlace wv_X12_isPlace (by decide +kernel) (hRm 2 (by decide)) (by decide +kernel) rfl) (
    okc (ok_ifne (off := 6) X (by decide +kernel) (by decide) rfl) (
    okc (ok_iload X (by decide +kernel) rfl) (
    okc (ok_iret hret (by decide +kernel)) (
    okc (ok_aload_n (j := 0) X (by decide +kernel) rfl rfl) (
    okc (ok_aload_n (j := 0) X (by decide +kernel) rfl rfl) (
    okc (ok_getR (ci := 12) (kf := 61) (idx := 120) (C := RX12) (T := TX12) (N := 63) X rfl (by decide) inX12 (by decide) wf_X12_120 (fun _ _ _ => rfl) (by decide +kernel) rfl) (
    okc (ok_iload X (by decide +kernel) rfl) (
    okc (ok_lald X (by decide +kernel) rfl) (
    okc (ok_l2i X (by decide +kernel) rfl) (
    okc (ok_aload_n (j := 0) X (by decide +kernel) rfl rfl) (
    okc (ok_getR (ci := 12) (kf := 61) (idx := 120) (C := RX12) (T := TX12) (N := 63) X rfl (by decide) inX12 (by decide) wf_X12_120 (fun _ _ _ => rfl) (by decide +kernel) rfl) (
    okc (ok_iload X (by decide +kernel) rfl) (
    okc (ok_iconst (n := 1) X (by decide +kernel) rfl rfl) (
    okc (ok_iadd X (by decide +kernel) rfl) (
    okc (ok_lald X (by decide +kernel) rfl) (
    okc (ok_l2i X (by decide +kernel) rfl) (
    okc (ok_aload_n (j := 0) X (by decide +kernel) rfl rfl) (
    okc (ok_getR (ci := 12) (kf := 61) (idx := 120) (C := RX12) (T := TX12) (N := 63) X rfl (by decide) inX12 (by decide) wf_X12_120 (fun _ _ _ => rfl) (by decide +kernel) rfl) (
    okc (ok_iload X (by decide +kernel) rfl) (
    okc (ok_iconst (n := 2) X (by decide +kernel) rfl rfl) (
    okc (ok_iadd X (by decide +kernel) rfl) (
    okc (ok_lald X (by decide +kernel) rfl) (
    okc (ok_l2i X (by decide +kernel) rfl) (
    okc (ok_callV (ci := 12) (C := RX12) (T := TX12) (N := 63) (Y := (yX12_addPerson, cX12_addPerson, 4, (some .int))) X hcal opsS_n md_X12_addPerson rfl (by decide) rfl wc_X12_addPerson wl_X12_152 wi_X12 wm_X12_addPerson wv_X12_addPerson (by decide +kernel) (hRm 4 (by decide)) (by decide +kernel) rfl) (
    okc (ok_pop X (by decide +kernel) rfl) (
    okc (ok_iinc (n := 1) X (by decide +kernel) rfl rfl) (
    okc (ok_goto (off := -154) X (by decide +kernel) (by decide)) (
    okc (ok_iload_n (j := 3) X (by decide +kernel) rfl rfl) (
    okc (ok_iret hret (by decide +kernel)) (
    okn))))))))))))))))))))))))))))))))))))))))))))))))))))))))))))))))))))))))))))))))))))))))))))))))))))))))))))))))))))))))))))))))))
noncomputable def es_X12_people  : List (Nat × En) := [(240, en_X12_isShelf), (149, en_X12_in), (150, en_X12_isPlace), (156, en_X12_addPerson)]
noncomputable def ka_X12_people_58   (n : Nat) : Kn SS (Int32 × SS) := fun pc ls st s => bif Nat.beq pc 58 then (match ls, st with
    | [some y0, some (.int x1), some (.int x2), some (.int x3), some (.int x4), _, _, _], [] => (gd (veq y0 (.ref 74)) (F_X12_people_58 n x1 x2 x3 x4 s))
    | _, _ => none) else (none)
set_option maxRecDepth 100000 in
set_option maxHeartbeats 4000000 in
theorem eq_X12_people_58    (n : Nat) (x1 : Int32) (x2 : Int32) (x3 : Int32) (x4 : Int32) (s : SS) : ex (tb_X12_people (calE (es_X12_people))) rI [58] (ka_X12_people_58   n) 132 58 [some (.ref 74), some (.int x1), some (.int x2), some (.int x3), some (.int x4), none, none, none] [] s = F_X12_people_58   (n + 1) x1 x2 x3 x4 s := by
  rfl
set_option maxRecDepth 100000 in
set_option maxHeartbeats 4000000 in
theorem gd_X12_people_58 {ad0 : Nat → Nat} {G : Gm} {A : Nat → Prop} {p : Program} {l : Launch} {e : Env} {R : Room} {s0 : State} {m : MethodId} {args : Array Value} {below : List Frame} {meth : Method} {c : Code} {Q : State → Prop} {r : (Int32 × SS)}   (hT : ∀ q ∈ tb_X12_people (calE (es_X12_people)), OKi G A 8 113 6344 ad0 p l e R s0 m args below meth c Q opsS rI r q.1 q.2)   : ∀ (n : Nat) (x1 : Int32) (x2 : Int32) (x3 : Int32) (x4 : Int32) (s : SS), F_X12_people_58   n x1 x2 x3 x4 s = some r → Gd G A 8 113 6344 ad0 p l e R s0 m args below meth c Q opsS 58 [some (.ref 74), some (.int x1), some (.int x2), some (.int x3), some (.int x4), none, none, none] [] s := by
  intro n
  induction n with
  | zero =>
    intro x1 x2 x3 x4 s hh
    exact absurd (show (none : Option (Int32 × SS)) = some r from hh) (by simp)
  | succ n ih =>
    intro x1 x2 x3 x4 s hh
    rw [← eq_X12_people_58    n x1 x2 x3 x4 s] at hh
    refine ex_good hT (fun pc' ls' st' x' hh => ?_) 132 58 _ [] s hh
    unfold ka_X12_people_58 at hh
    cases hb : Nat.beq pc' 58 with
    | true =>
      rw [hb] at hh
      have e9 := beq1 hb
      subst e9
      simp only [cond_true] at hh
      split at hh
      · obtain ⟨g0, hh1⟩ := gd_some hh
        have e0 := veq_of g0
        subst e0
        exact Gd.wk (ih _ _ _ _ _ hh1) (Lle.eq (Lle.eq (Lle.eq (Lle.eq (Lle.eq (Lle.no (Lle.no (Lle.no Lle.nil))))))))
      · cases hh
    | false =>
      rw [hb] at hh
      simp only [cond_false] at hh
      cases hh

noncomputable def ka_X12_people  : Kn SS (Int32 × SS) := fun pc ls st s => bif Nat.beq pc 58 then (match ls, st with
    | [some y0, some (.int x1), some (.int x2), some (.int x3), some (.int x4), _, _, _], [] => (gd (veq y0 (.ref 74)) (F_X12_people_58 fuel0 x1 x2 x3 x4 s))
    | _, _ => none) else (none)
set_option maxRecDepth 100000 in
set_option maxHeartbeats 4000000 in
theorem eq_X12_people   (a0 : Int32) (a1 : Int32) (a2 : Int32) (s : SS) : ex (tb_X12_people (calE (es_X12_people))) rI [58] (ka_X12_people ) 132 0 [some (.ref 74), some (.int a0), some (.int a1), some (.int a2), none, none, none, none] [] s = f_X12_people a0 a1 a2 s := by
  rfl
set_option maxRecDepth 100000 in
set_option maxHeartbeats 4000000 in
theorem run_X12_people {l : Launch} {G : Gm}   (a0 : Int32) (a1 : Int32) (a2 : Int32) (s : SS) (q : (Int32 × SS)) (h : f_X12_people a0 a1 a2 s = some q) (D' : Nat) (hD : 2 ≤ D') : RunsM l G (D' + 1) (md 158) (embS s) [.ref 74, .int a0, .int a1, .int a2] (some (.int q.1)) (embS q.2) := by
  rw [md_X12_people]
  refine runs_I (plainFor_of_name (by decide +kernel)) (Nat.le_of_ble_eq_true rfl) rfl ?_
  intro A p e R s0 m args below meth c Q ad0 hR X hret
  have X : Cx G A RX12 cX12_people 8 p s0 m args c := X
  have hT := tk_X12_people X (calE_ok (es := es_X12_people) (enc (en_X12_isShelf_ok _ (by omega)) (enc (en_X12_in_ok _ (by omega)) (enc (en_X12_isPlace_ok _ (by omega)) (enc (en_X12_addPerson_ok _ (by omega)) (enn)))))) (rmD rfl hR) hret
  rw [← eq_X12_people   a0 a1 a2 s] at h
  refine ex_good hT (fun pc' ls' st' x' hh => ?_) 132 0 _ [] s h
  unfold ka_X12_people at hh
  cases hb : Nat.beq pc' 58 with
  | true =>
    rw [hb] at hh
    have e9 := beq1 hb
    subst e9
    simp only [cond_true] at hh
    split at hh
    · obtain ⟨g0, hh1⟩ := gd_some hh
      have e0 := veq_of g0
      subst e0
      exact Gd.wk (gd_X12_people_58 hT  _ _ _ _ _ _ hh1) (Lle.eq (Lle.eq (Lle.eq (Lle.eq (Lle.eq (Lle.no (Lle.no (Lle.no Lle.nil))))))))
    · cases hh
  | false =>
    rw [hb] at hh
    simp only [cond_false] at hh
    cases hh

noncomputable def en_X12_people  : En := fun _ av s k => match av with
  | [.ref r0, .int a0, .int a1, .int a2] => (gd (Nat.beq r0 74) (bI (f_X12_people a0 a1 a2 s) k))
  | _ => none
set_option maxRecDepth 100000 in
set_option maxHeartbeats 4000000 in
theorem en_X12_people_ok {l : Launch} {G : Gm} (D : Nat) (hD : 3 ≤ D) : enOK l G D 158 en_X12_people := by
  intro ρ av x k r h
  unfold en_X12_people at h
  split at h
  · obtain ⟨g0, h⟩ := gd_some h
    obtain ⟨q, h1, h2⟩ := bind_of h
    have e0 := beq1 g0
    subst e0
    obtain ⟨D', rfl⟩ : ∃ D', D = D' + 1 := ⟨D - 1, by omega⟩
    exact ⟨_, _, h2, run_X12_people  _ _ _ _ _ h1 D' (by omega)⟩
  · cases h

/-! HatRankModel valueAt -/
noncomputable def tb_X12_valueAt (cal : Cal SS) : List (Nat × Ins SS) := [(0, e_iload 1 1), (1, e_ifne 13 4), (4, e_aload 0 5), (5, e_getR opsS 12 13 8), (8, e_iload 2 9), (9, e_ald opsS 100 10), (10, e_goto 47), (13, e_iload 1 14), (14, e_iconst (1) 15), (15, e_cne 27 18), (18, e_aload 0 19), (19, e_getR opsS 12 5 22), (22, e_iload 2 23), (23, e_ald opsS 100 24), (24, e_goto 47), (27, e_iload 1 28), (28, e_iconst (2) 29), (29, e_cne 41 32), (32, e_aload 0 33), (33, e_getR opsS 12 6 36), (36, e_iload 2 37), (37, e_ald opsS 100 38), (38, e_goto 47), (41, e_aload 0 42), (42, e_getR opsS 12 2 45), (45, e_iload 2 46), (46, e_ald opsS 100 47), (47, e_iret)]
set_option maxRecDepth 100000 in
set_option maxHeartbeats 4000000 in
theorem tk_X12_valueAt {ad0 : Nat → Nat} {G : Gm} {A : Nat → Prop} {p : Program} {l : Launch} {e : Env} {R : Room} {s0 : State} {m : MethodId} {args : Array Value} {below : List Frame} {meth : Method} {c : Code} {Q : State → Prop} {ρ : Type} {ret : Option Value → SS → Option ρ} {r : ρ} (X : Cx G A RX12 cX12_valueAt 3 p s0 m args c) {D' : Nat} {cal : Cal SS} (hcal : calOK l G opsS D' cal) (hRm : ∀ k, k ≤ 21 → D' + 1 ≤ R.frames ∧ 8 + (k + 11) + 40 * D' ≤ R.locals) (hret : RetK G A cX12_valueAt 113 6344 ad0 p l e R s0 m args below meth c Q opsS ret r .ireturn okI) : ∀ q ∈ tb_X12_valueAt cal, OKi G A 3 113 6344 ad0 p l e R s0 m args below meth c Q opsS ret r q.1 q.2 :=
    okc (ok_iload_n (j := 1) X (by decide +kernel) rfl rfl) (
    okc (ok_ifne (off := 12) X (by decide +kernel) (by decide) rfl) (
    okc (ok_aload_n (j := 0) X (by decide +kernel) rfl rfl) (
    okc (ok_getR (ci := 12) (kf := 13) (idx := 31) (C := RX12) (T := TX12) (N := 63) X rfl (by decide) inX12 (by decide) wf_X12_31 (fun _ _ _ => rfl) (by decide +kernel) rfl) (
    okc (ok_iload_n (j := 2) X (by decide +kernel) rfl rfl) (
    okc (ok_iald X (by decide +kernel) rfl) (
    okc (ok_goto (off := 37) X (by decide +kernel) (by decide)) (
    okc (ok_iload_n (j := 1) X (by decide +kernel) rfl rfl) (
    okc (ok_iconst (n := 1) X (by decide +kernel) rfl rfl) (
    okc (ok_cne (off := 12) X (by decide +kernel) (by decide) rfl) (
    okc (ok_aload_n (j := 0) X (by decide +kernel) rfl rfl) (
    okc (ok_getR (ci := 12) (kf := 5) (idx := 13) (C := RX12) (T := TX12) (N := 63) X rfl (by decide) inX12 (by decide) wf_X12_13 (fun _ _ _ => rfl) (by decide +kernel) rfl) (
    okc (ok_iload_n (j := 2) X (by decide +kernel) rfl rfl) (
    okc (ok_iald X (by decide +kernel) rfl) (
    okc (ok_goto (off := 23) X (by decide +kernel) (by decide)) (
    okc (ok_iload_n (j := 1) X (by decide +kernel) rfl rfl) (
    okc (ok_iconst (n := 2) X (by decide +kernel) rfl rfl) (
    okc (ok_cne (off := 12) X (by decide +kernel) (by decide) rfl) (
    okc (ok_aload_n (j := 0) X (by decide +kernel) rfl rfl) (
    okc (ok_getR (ci := 12) (kf := 6) (idx := 16) (C := RX12) (T := TX12) (N := 63) X rfl (by decide) inX12 (by decide) wf_X12_16 (fun _ _ _ => rfl) (by decide +kernel) rfl) (
    okc (ok_iload_n (j := 2) X (by decide +kernel) rfl rfl) (
    okc (ok_iald X (by decide +kernel) rfl) (
    okc (ok_goto (off := 9) X (by decide +kernel) (by decide)) (
    okc (ok_aload_n (j := 0) X (by decide +kernel) rfl rfl) (
    okc (ok_getR (ci := 12) (kf := 2) (idx := 7) (C := RX12) (T := TX12) (N := 63) X rfl (by decide) inX12 (by decide) wf_X12_7 (fun _ _ _ => rfl) (by decide +kernel) rfl) (
    okc (ok_iload_n (j := 2) X (by decide +kernel) rfl rfl) (
    okc (ok_iald X (by decide +kernel) rfl) (
    okc (ok_iret hret (by decide +kernel)) (
    okn))))))))))))))))))))))))))))
noncomputable def es_X12_valueAt  : List (Nat × En) := []
set_option maxRecDepth 100000 in
set_option maxHeartbeats 4000000 in
theorem eq_X12_valueAt   (a0 : Int32) (a1 : Int32) (s : SS) : ex (tb_X12_valueAt (calE (es_X12_valueAt))) rI [] (fun _ _ _ _ => none) 30 0 [some (.ref 74), some (.int a0), some (.int a1)] [] s = f_X12_valueAt a0 a1 s := by
  rfl
set_option maxRecDepth 100000 in
set_option maxHeartbeats 4000000 in
theorem run_X12_valueAt {l : Launch} {G : Gm}   (a0 : Int32) (a1 : Int32) (s : SS) (q : (Int32 × SS)) (h : f_X12_valueAt a0 a1 s = some q) (D' : Nat) (hD : 0 ≤ D') : RunsM l G (D' + 1) (md 159) (embS s) [.ref 74, .int a0, .int a1] (some (.int q.1)) (embS q.2) := by
  rw [md_X12_valueAt]
  refine runs_I (plainFor_of_name (by decide +kernel)) (Nat.le_of_ble_eq_true rfl) rfl ?_
  intro A p e R s0 m args below meth c Q ad0 hR X hret
  have X : Cx G A RX12 cX12_valueAt 3 p s0 m args c := X
  have hT := tk_X12_valueAt X (calE_ok (es := es_X12_valueAt) (enn)) (rmD rfl hR) hret
  rw [← eq_X12_valueAt   a0 a1 s] at h
  refine ex_good hT (fun pc' ls' st' x' hh => ?_) 30 0 _ [] s h
  cases hh

noncomputable def en_X12_valueAt  : En := fun _ av s k => match av with
  | [.ref r0, .int a0, .int a1] => (gd (Nat.beq r0 74) (bI (f_X12_valueAt a0 a1 s) k))
  | _ => none
set_option maxRecDepth 100000 in
set_option maxHeartbeats 4000000 in
theorem en_X12_valueAt_ok {l : Launch} {G : Gm} (D : Nat) (hD : 1 ≤ D) : enOK l G D 159 en_X12_valueAt := by
  intro ρ av x k r h
  unfold en_X12_valueAt at h
  split at h
  · obtain ⟨g0, h⟩ := gd_some h
    obtain ⟨q, h1, h2⟩ := bind_of h
    have e0 := beq1 g0
    subst e0
    obtain ⟨D', rfl⟩ : ∃ D', D = D' + 1 := ⟨D - 1, by omega⟩
    exact ⟨_, _, h2, run_X12_valueAt  _ _ _ _ h1 D' (by omega)⟩
  · cases h

/-! HatRankModel lays -/
noncomputable def tb_X12_lays (cal : Cal SS) : List (Nat × Ins SS) := [(0, e_iload 1 1), (1, e_ifne 14 4), (4, e_aload 0 5), (5, e_getR opsS 12 13 8), (8, e_iload 2 9), (9, e_iload 3 10), (10, e_ast opsS 100 (fun v => v) 11), (11, e_goto 51), (14, e_iload 1 15), (15, e_iconst (1) 16), (16, e_cne 29 19), (19, e_aload 0 20), (20, e_getR opsS 12 5 23), (23, e_iload 2 24), (24, e_iload 3 25), (25, e_ast opsS 100 (fun v => v) 26), (26, e_goto 51), (29, e_iload 1 30), (30, e_iconst (2) 31), (31, e_cne 44 34), (34, e_aload 0 35), (35, e_getR opsS 12 6 38), (38, e_iload 2 39), (39, e_iload 3 40), (40, e_ast opsS 100 (fun v => v) 41), (41, e_goto 51), (44, e_aload 0 45), (45, e_getR opsS 12 2 48), (48, e_iload 2 49), (49, e_iload 3 50), (50, e_ast opsS 100 (fun v => v) 51), (51, e_vret)]
set_option maxRecDepth 100000 in
set_option maxHeartbeats 4000000 in
theorem tk_X12_lays {ad0 : Nat → Nat} {G : Gm} {A : Nat → Prop} {p : Program} {l : Launch} {e : Env} {R : Room} {s0 : State} {m : MethodId} {args : Array Value} {below : List Frame} {meth : Method} {c : Code} {Q : State → Prop} {ρ : Type} {ret : Option Value → SS → Option ρ} {r : ρ} (X : Cx G A RX12 cX12_lays 4 p s0 m args c) {D' : Nat} {cal : Cal SS} (hcal : calOK l G opsS D' cal) (hRm : ∀ k, k ≤ 21 → D' + 1 ≤ R.frames ∧ 8 + (k + 11) + 40 * D' ≤ R.locals) (hret : RetK G A cX12_lays 113 6344 ad0 p l e R s0 m args below meth c Q opsS ret r .return_ okV) : ∀ q ∈ tb_X12_lays cal, OKi G A 4 113 6344 ad0 p l e R s0 m args below meth c Q opsS ret r q.1 q.2 :=
    okc (ok_iload_n (j := 1) X (by decide +kernel) rfl rfl) (
    okc (ok_ifne (off := 13) X (by decide +kernel) (by decide) rfl) (
    okc (ok_aload_n (j := 0) X (by decide +kernel) rfl rfl) (
    okc (ok_getR (ci := 12) (kf := 13) (idx := 31) (C := RX12) (T := TX12) (N := 63) X rfl (by decide) inX12 (by decide) wf_X12_31 (fun _ _ _ => rfl) (by decide +kernel) rfl) (
    okc (ok_iload_n (j := 2) X (by decide +kernel) rfl rfl) (
    okc (ok_iload_n (j := 3) X (by decide +kernel) rfl rfl) (
    okc (ok_iast X opsS_ok (by decide +kernel) rfl) (
    okc (ok_goto (off := 40) X (by decide +kernel) (by decide)) (
    okc (ok_iload_n (j := 1) X (by decide +kernel) rfl rfl) (
    okc (ok_iconst (n := 1) X (by decide +kernel) rfl rfl) (
    okc (ok_cne (off := 13) X (by decide +kernel) (by decide) rfl) (
    okc (ok_aload_n (j := 0) X (by decide +kernel) rfl rfl) (
    okc (ok_getR (ci := 12) (kf := 5) (idx := 13) (C := RX12) (T := TX12) (N := 63) X rfl (by decide) inX12 (by decide) wf_X12_13 (fun _ _ _ => rfl) (by decide +kernel) rfl) (
    okc (ok_iload_n (j := 2) X (by decide +kernel) rfl rfl) (
    okc (ok_iload_n (j := 3) X (by decide +kernel) rfl rfl) (
    okc (ok_iast X opsS_ok (by decide +kernel) rfl) (
    okc (ok_goto (off := 25) X (by decide +kernel) (by decide)) (
    okc (ok_iload_n (j := 1) X (by decide +kernel) rfl rfl) (
    okc (ok_iconst (n := 2) X (by decide +kernel) rfl rfl) (
    okc (ok_cne (off := 13) X (by decide +kernel) (by decide) rfl) (
    okc (ok_aload_n (j := 0) X (by decide +kernel) rfl rfl) (
    okc (ok_getR (ci := 12) (kf := 6) (idx := 16) (C := RX12) (T := TX12) (N := 63) X rfl (by decide) inX12 (by decide) wf_X12_16 (fun _ _ _ => rfl) (by decide +kernel) rfl) (
    okc (ok_iload_n (j := 2) X (by decide +kernel) rfl rfl) (
    okc (ok_iload_n (j := 3) X (by decide +kernel) rfl rfl) (
    okc (ok_iast X opsS_ok (by decide +kernel) rfl) (
    okc (ok_goto (off := 10) X (by decide +kernel) (by decide)) (
    okc (ok_aload_n (j := 0) X (by decide +kernel) rfl rfl) (
    okc (ok_getR (ci := 12) (kf := 2) (idx := 7) (C := RX12) (T := TX12) (N := 63) X rfl (by decide) inX12 (by decide) wf_X12_7 (fun _ _ _ => rfl) (by decide +kernel) rfl) (
    okc (ok_iload_n (j := 2) X (by decide +kernel) rfl rfl) (
    okc (ok_iload_n (j := 3) X (by decide +kernel) rfl rfl) (
    okc (ok_iast X opsS_ok (by decide +kernel) rfl) (
    okc (ok_vret hret (by decide +kernel)) (
    okn))))))))))))))))))))))))))))))))
noncomputable def es_X12_lays  : List (Nat × En) := []
set_option maxRecDepth 100000 in
set_option maxHeartbeats 4000000 in
theorem eq_X12_lays   (a0 : Int32) (a1 : Int32) (a2 : Int32) (s : SS) : ex (tb_X12_lays (calE (es_X12_lays))) rV [] (fun _ _ _ _ => none) 34 0 [some (.ref 74), some (.int a0), some (.int a1), some (.int a2)] [] s = f_X12_lays a0 a1 a2 s := by
  rfl
set_option maxRecDepth 100000 in
set_option maxHeartbeats 4000000 in
theorem run_X12_lays {l : Launch} {G : Gm}   (a0 : Int32) (a1 : Int32) (a2 : Int32) (s : SS) (q : SS) (h : f_X12_lays a0 a1 a2 s = some q) (D' : Nat) (hD : 0 ≤ D') : RunsM l G (D' + 1) (md 160) (embS s) [.ref 74, .int a0, .int a1, .int a2] none (embS q) := by
  rw [md_X12_lays]
  refine runs_V (plainFor_of_name (by decide +kernel)) (Nat.le_of_ble_eq_true rfl) rfl ?_
  intro A p e R s0 m args below meth c Q ad0 hR X hret
  have X : Cx G A RX12 cX12_lays 4 p s0 m args c := X
  have hT := tk_X12_lays X (calE_ok (es := es_X12_lays) (enn)) (rmD rfl hR) hret
  rw [← eq_X12_lays   a0 a1 a2 s] at h
  refine ex_good hT (fun pc' ls' st' x' hh => ?_) 34 0 _ [] s h
  cases hh

noncomputable def en_X12_lays  : En := fun _ av s k => match av with
  | [.ref r0, .int a0, .int a1, .int a2] => (gd (Nat.beq r0 74) (bV (f_X12_lays a0 a1 a2 s) k))
  | _ => none
set_option maxRecDepth 100000 in
set_option maxHeartbeats 4000000 in
theorem en_X12_lays_ok {l : Launch} {G : Gm} (D : Nat) (hD : 1 ≤ D) : enOK l G D 160 en_X12_lays := by
  intro ρ av x k r h
  unfold en_X12_lays at h
  split at h
  · obtain ⟨g0, h⟩ := gd_some h
    obtain ⟨q, h1, h2⟩ := bind_of h
    have e0 := beq1 g0
    subst e0
    obtain ⟨D', rfl⟩ : ∃ D', D = D' + 1 := ⟨D - 1, by omega⟩
    exact ⟨_, _, h2, run_X12_lays  _ _ _ _ _ h1 D' (by omega)⟩
  · cases h

/-! HatRankModel changes -/
noncomputable def tb_X12_changes (cal : Cal SS) : List (Nat × Ins SS) := [(0, e_aload 0 1), (1, e_iload 1 2), (2, e_iload 2 3), (3, e_callV opsS cal 159 2 12 6), (6, e_istore 4 8), (8, e_iload 4 10), (10, e_iload 3 11), (11, e_cne 17 14), (14, e_iload 4 16), (16, e_iret), (17, e_aload 0 18), (18, e_iconst (0) 19), (19, e_putI opsS 12 17 22), (22, e_aload 0 23), (23, e_getI opsS 12 16 26), (26, e_iconst (40) 28), (28, e_cne 121 31), (31, e_iconst (1) 32), (32, e_istore 5 34), (34, e_iload 5 36), (36, e_iconst (40) 38), (38, e_cge 111 41), (41, e_aload 0 42), (42, e_getR opsS 12 18 45), (45, e_iload 5 47), (47, e_iconst (1) 48), (48, e_bin aSub 49), (49, e_aload 0 50), (50, e_getR opsS 12 18 53), (53, e_iload 5 55), (55, e_ald opsS 100 56), (56, e_ast opsS 100 (fun v => v) 57), (57, e_aload 0 58), (58, e_getR opsS 12 19 61), (61, e_iload 5 63), (63, e_iconst (1) 64), (64, e_bin aSub 65), (65, e_aload 0 66), (66, e_getR opsS 12 19 69), (69, e_iload 5 71), (71, e_ald opsS 100 72), (72, e_ast opsS 100 (fun v => v) 73), (73, e_aload 0 74), (74, e_getR opsS 12 20 77), (77, e_iload 5 79), (79, e_iconst (1) 80), (80, e_bin aSub 81), (81, e_aload 0 82), (82, e_getR opsS 12 20 85), (85, e_iload 5 87), (87, e_ald opsS 100 88), (88, e_ast opsS 100 (fun v => v) 89), (89, e_aload 0 90), (90, e_getR opsS 12 21 93), (93, e_iload 5 95), (95, e_iconst (1) 96), (96, e_bin aSub 97), (97, e_aload 0 98), (98, e_getR opsS 12 21 101), (101, e_iload 5 103), (103, e_ald opsS 100 104), (104, e_ast opsS 100 (fun v => v) 105), (105, e_iinc 5 (1) 108), (108, e_goto 34), (111, e_aload 0 112), (112, e_dup 113), (113, e_getI opsS 12 16 116), (116, e_iconst (1) 117), (117, e_bin aSub 118), (118, e_putI opsS 12 16 121), (121, e_aload 0 122), (122, e_getR opsS 12 18 125), (125, e_aload 0 126), (126, e_getI opsS 12 16 129), (129, e_iload 1 130), (130, e_ast opsS 100 (fun v => v) 131), (131, e_aload 0 132), (132, e_getR opsS 12 19 135), (135, e_aload 0 136), (136, e_getI opsS 12 16 139), (139, e_iload 2 140), (140, e_ast opsS 100 (fun v => v) 141), (141, e_aload 0 142), (142, e_getR opsS 12 20 145), (145, e_aload 0 146), (146, e_getI opsS 12 16 149), (149, e_iload 4 151), (151, e_ast opsS 100 (fun v => v) 152), (152, e_aload 0 153), (153, e_getR opsS 12 21 156), (156, e_aload 0 157), (157, e_getI opsS 12 16 160), (160, e_iload 3 161), (161, e_ast opsS 100 (fun v => v) 162), (162, e_aload 0 163), (163, e_dup 164), (164, e_getI opsS 12 16 167), (167, e_iconst (1) 168), (168, e_bin aAdd 169), (169, e_putI opsS 12 16 172), (172, e_aload 0 173), (173, e_iload 1 174), (174, e_iload 2 175), (175, e_iload 3 176), (176, e_callV opsS cal 160 3 12 179), (179, e_iload 4 181), (181, e_iret)]
set_option maxRecDepth 100000 in
set_option maxHeartbeats 4000000 in
theorem tk_X12_changes {ad0 : Nat → Nat} {G : Gm} {A : Nat → Prop} {p : Program} {l : Launch} {e : Env} {R : Room} {s0 : State} {m : MethodId} {args : Array Value} {below : List Frame} {meth : Method} {c : Code} {Q : State → Prop} {ρ : Type} {ret : Option Value → SS → Option ρ} {r : ρ} (X : Cx G A RX12 cX12_changes 6 p s0 m args c) {D' : Nat} {cal : Cal SS} (hcal : calOK l G opsS D' cal) (hRm : ∀ k, k ≤ 21 → D' + 1 ≤ R.frames ∧ 8 + (k + 11) + 40 * D' ≤ R.locals) (hret : RetK G A cX12_changes 113 6344 ad0 p l e R s0 m args below meth c Q opsS ret r .ireturn okI) : ∀ q ∈ tb_X12_changes cal, OKi G A 6 113 6344 ad0 p l e R s0 m args below meth c Q opsS ret r q.1 q.2 :=
    okc (ok_aload_n (j := 0) X (by decide +kernel) rfl rfl) (
    okc (ok_iload_n (j := 1) X (by decide +kernel) rfl rfl) (
    okc (ok_iload_n (j := 2) X (by decide +kernel) rfl rfl) (
    okc (ok_callV (ci := 12) (C := RX12) (T := TX12) (N := 63) (Y := (yX12_valueAt, cX12_valueAt, 3, (some .int))) X hcal opsS_n md_X12_valueAt rfl (by decide) rfl wc_X12_valueAt wl_X12_161 wi_X12 wm_X12_valueAt wv_X12_valueAt (by decide +kernel) (hRm 3 (by decide)) (by decide +kernel) rfl) (
    okc (ok_istore X (by decide +kernel) rfl) (
    okc (ok_iload X (by decide +kernel) rfl) (
    okc (ok_iload_n (j := 3) X (by decide +kernel) rfl rfl) (
    okc (ok_cne (off := 6) X (by decide +kernel) (by decide) rfl) (
    okc (ok_iload X (by decide +kernel) rfl) (
    okc (ok_iret hret (by decide +kernel)) (
    okc (ok_aload_n (j := 0) X (by decide +kernel) rfl rfl) (
    okc (ok_iconst (n := 0) X (by decide +kernel) rfl rfl) (
    okc (ok_putI (ci := 12) (kf := 17) (idx := 165) (C := RX12) (T := TX12) (N := 63) X opsS_ok rfl (by decide) inX12 tyX12_ok nmX12 (by decide) wf_X12_165 rfl (fun _ _ _ => rfl) (by decide +kernel) (by decide +kernel) rfl) (
    okc (ok_aload_n (j := 0) X (by decide +kernel) rfl rfl) (
    okc (ok_getI (ci := 12) (kf := 16) (idx := 168) (C := RX12) (T := TX12) (N := 63) X rfl (by decide) inX12 (by decide) wf_X12_168 (fun _ _ _ => rfl) (by decide +kernel) rfl) (
    okc (ok_bipush (n := 40) X (by decide +kernel) rfl rfl) (
    okc (ok_cne (off := 93) X (by decide +kernel) (by decide) rfl) (
    okc (ok_iconst (n := 1) X (by decide +kernel) rfl rfl) (
    okc (ok_istore X (by decide +kernel) rfl) (
    okc (ok_iload X (by decide +kernel) rfl) (
    okc (ok_bipush (n := 40) X (by decide +kernel) rfl rfl) (
    okc (ok_cge (off := 73) X (by decide +kernel) (by decide) rfl) (
    okc (ok_aload_n (j := 0) X (by decide +kernel) rfl rfl) (
    okc (ok_getR (ci := 12) (kf := 18) (idx := 40) (C := RX12) (T := TX12) (N := 63) X rfl (by decide) inX12 (by decide) wf_X12_40 (fun _ _ _ => rfl) (by decide +kernel) rfl) (
    okc (ok_iload X (by decide +kernel) rfl) (
    okc (ok_iconst (n := 1) X (by decide +kernel) rfl rfl) (
    okc (ok_isub X (by decide +kernel) rfl) (
    okc (ok_aload_n (j := 0) X (by decide +kernel) rfl rfl) (
    okc (ok_getR (ci := 12) (kf := 18) (idx := 40) (C := RX12) (T := TX12) (N := 63) X rfl (by decide) inX12 (by decide) wf_X12_40 (fun _ _ _ => rfl) (by decide +kernel) rfl) (
    okc (ok_iload X (by decide +kernel) rfl) (
    okc (ok_iald X (by decide +kernel) rfl) (
    okc (ok_iast X opsS_ok (by decide +kernel) rfl) (
    okc (ok_aload_n (j := 0) X (by decide +kernel) rfl rfl) (
    okc (ok_getR (ci := 12) (kf := 19) (idx := 43) (C := RX12) (T := TX12) (N := 63) X rfl (by decide) inX12 (by decide) wf_X12_43 (fun _ _ _ => rfl) (by decide +kernel) rfl) (
    okc (ok_iload X (by decide +kernel) rfl) (
    okc (ok_iconst (n := 1) X (by decide +kernel) rfl rfl) (
    okc (ok_isub X (by decide +kernel) rfl) (
    okc (ok_aload_n (j := 0) X (by decide +kernel) rfl rfl) (
    okc (ok_getR (ci := 12) (kf := 19) (idx := 43) (C := RX12) (T := TX12) (N := 63) X rfl (by decide) inX12 (by decide) wf_X12_43 (fun _ _ _ => rfl) (by decide +kernel) rfl) (
    okc (ok_iload X (by decide +kernel) rfl) (
    okc (ok_iald X (by decide +kernel) rfl) (
    okc (ok_iast X opsS_ok (by decide +kernel) rfl) (
    okc (ok_aload_n (j := 0) X (by decide +kernel) rfl rfl) (
    okc (ok_getR (ci := 12) (kf := 20) (idx := 46) (C := RX12) (T := TX12) (N := 63) X rfl (by decide) inX12 (by decide) wf_X12_46 (fun _ _ _ => rfl) (by decide +kernel) rfl) (
    okc (ok_iload X (by decide +kernel) rfl) (
    okc (ok_iconst (n := 1) X (by decide +kernel) rfl rfl) (
    okc (ok_isub X (by decide +kernel) rfl) (
    okc (ok_aload_n (j := 0) X (by decide +kernel) rfl rfl) (
    okc (ok_getR (ci := 12) (kf := 20) (idx := 46) (C := RX12) (T := TX12) (N := 63) X rfl (by decide) inX12 (by decide) wf_X12_46 (fun _ _ _ => rfl) (by decide +kernel) rfl) (
    okc (ok_iload X (by decide +kernel) rfl) (
    okc (ok_iald X (by decide +kernel) rfl) (
    okc (ok_iast X opsS_ok (by decide +kernel) rfl) (
    okc (ok_aload_n (j := 0) X (by decide +kernel) rfl rfl) (
    okc (ok_getR (ci := 12) (kf := 21) (idx := 49) (C := RX12) (T := TX12) (N := 63) X rfl (by decide) inX12 (by decide) wf_X12_49 (fun _ _ _ => rfl) (by decide +kernel) rfl) (
    okc (ok_iload X (by decide +kernel) rfl) (
    okc (ok_iconst (n := 1) X (by decide +kernel) rfl rfl) (
    okc (ok_isub X (by decide +kernel) rfl) (
    okc (ok_aload_n (j := 0) X (by decide +kernel) rfl rfl) (
    okc (ok_getR (ci := 12) (kf := 21) (idx := 49) (C := RX12) (T := TX12) (N := 63) X rfl (by decide) inX12 (by decide) wf_X12_49 (fun _ _ _ => rfl) (by decide +kernel) rfl) (
    okc (ok_iload X (by decide +kernel) rfl) (
    okc (ok_iald X (by decide +kernel) rfl) (
    okc (ok_iast X opsS_ok (by decide +kernel) rfl) (
    okc (ok_iinc (n := 1) X (by decide +kernel) rfl rfl) (
    okc (ok_goto (off := -74) X (by decide +kernel) (by decide)) (
    okc (ok_aload_n (j := 0) X (by decide +kernel) rfl rfl) (
    okc (ok_dup X (by decide +kernel) rfl) (
    okc (ok_getI (ci := 12) (kf := 16) (idx := 168) (C := RX12) (T := TX12) (N := 63) X rfl (by decide) inX12 (by decide) wf_X12_168 (fun _ _ _ => rfl) (by decide +kernel) rfl) (
    okc (ok_iconst (n := 1) X (by decide +kernel) rfl rfl) (
    okc (ok_isub X (by decide +kernel) rfl) (
    okc (ok_putI (ci := 12) (kf := 16) (idx := 168) (C := RX12) (T := TX12) (N := 63) X opsS_ok rfl (by decide) inX12 tyX12_ok nmX12 (by decide) wf_X12_168 rfl (fun _ _ _ => rfl) (by decide +kernel) (by decide +kernel) rfl) (
    okc (ok_aload_n (j := 0) X (by decide +kernel) rfl rfl) (
    okc (ok_getR (ci := 12) (kf := 18) (idx := 40) (C := RX12) (T := TX12) (N := 63) X rfl (by decide) inX12 (by decide) wf_X12_40 (fun _ _ _ => rfl) (by decide +kernel) rfl) (
    okc (ok_aload_n (j := 0) X (by decide +kernel) rfl rfl) (
    okc (ok_getI (ci := 12) (kf := 16) (idx := 168) (C := RX12) (T := TX12) (N := 63) X rfl (by decide) inX12 (by decide) wf_X12_168 (fun _ _ _ => rfl) (by decide +kernel) rfl) (
    okc (ok_iload_n (j := 1) X (by decide +kernel) rfl rfl) (
    okc (ok_iast X opsS_ok (by decide +kernel) rfl) (
    okc (ok_aload_n (j := 0) X (by decide +kernel) rfl rfl) (
    okc (ok_getR (ci := 12) (kf := 19) (idx := 43) (C := RX12) (T := TX12) (N := 63) X rfl (by decide) inX12 (by decide) wf_X12_43 (fun _ _ _ => rfl) (by decide +kernel) rfl) (
    okc (ok_aload_n (j := 0) X (by decide +kernel) rfl rfl) (
    okc (ok_getI (ci := 12) (kf := 16) (idx := 168) (C := RX12) (T := TX12) (N := 63) X rfl (by decide) inX12 (by decide) wf_X12_168 (fun _ _ _ => rfl) (by decide +kernel) rfl) (
    okc (ok_iload_n (j := 2) X (by decide +kernel) rfl rfl) (
    okc (ok_iast X opsS_ok (by decide +kernel) rfl) (
    okc (ok_aload_n (j := 0) X (by decide +kernel) rfl rfl) (
    okc (ok_getR (ci := 12) (kf := 20) (idx := 46) (C := RX12) (T := TX12) (N := 63) X rfl (by decide) inX12 (by decide) wf_X12_46 (fun _ _ _ => rfl) (by decide +kernel) rfl) (
    okc (ok_aload_n (j := 0) X (by decide +kernel) rfl rfl) (
    okc (ok_getI (ci := 12) (kf := 16) (idx := 168) (C := RX12) (T := TX12) (N := 63) X rfl (by decide) inX12 (by decide) wf_X12_168 (fun _ _ _ => rfl) (by decide +kernel) rfl) (
    okc (ok_iload X (by decide +kernel) rfl) (
    okc (ok_iast X opsS_ok (by decide +kernel) rfl) (
    okc (ok_aload_n (j := 0) X (by decide +kernel) rfl rfl) (
    okc (ok_getR (ci := 12) (kf := 21) (idx := 49) (C := RX12) (T := TX12) (N := 63) X rfl (by decide) inX12 (by decide) wf_X12_49 (fun _ _ _ => rfl) (by decide +kernel) rfl) (
    okc (ok_aload_n (j := 0) X (by decide +kernel) rfl rfl) (
    okc (ok_getI (ci := 12) (kf := 16) (idx := 168) (C := RX12) (T := TX12) (N := 63) X rfl (by decide) inX12 (by decide) wf_X12_168 (fun _ _ _ => rfl) (by decide +kernel) rfl) (
    okc (ok_iload_n (j := 3) X (by decide +kernel) rfl rfl) (
    okc (ok_iast X opsS_ok (by decide +kernel) rfl) (
    okc (ok_aload_n (j := 0) X (by decide +kernel) rfl rfl) (
    okc (ok_dup X (by decide +kernel) rfl) (
    okc (ok_getI (ci := 12) (kf := 16) (idx := 168) (C := RX12) (T := TX12) (N := 63) X rfl (by decide) inX12 (by decide) wf_X12_168 (fun _ _ _ => rfl) (by decide +kernel) rfl) (
    okc (ok_iconst (n := 1) X (by decide +kernel) rfl rfl) (
    okc (ok_iadd X (by decide +kernel) rfl) (
    okc (ok_putI (ci := 12) (kf := 16) (idx := 168) (C := RX12) (T := TX12) (N := 63) X opsS_ok rfl (by decide) inX12 tyX12_ok nmX12 (by decide) wf_X12_168 rfl (fun _ _ _ => rfl) (by decide +kernel) (by decide +kernel) rfl) (
    okc (ok_aload_n (j := 0) X (by decide +kernel) rfl rfl) (
    okc (ok_iload_n (j := 1) X (by decide +kernel) rfl rfl) (
    okc (ok_iload_n (j := 2) X (by decide +kernel) rfl rfl) (
    okc (ok_iload_n (j := 3) X (by decide +kernel) rfl rfl) (
    okc (ok_callV (ci := 12) (C := RX12) (T := TX12) (N := 63) (Y := (yX12_lays, cX12_lays, 4, none)) X hcal opsS_n md_X12_lays rfl (by decide) rfl wc_X12_lays wl_X12_171 wi_X12 wm_X12_lays wv_X12_lays (by decide +kernel) (hRm 4 (by decide)) (by decide +kernel) rfl) (
    okc (ok_iload X (by decide +kernel) rfl) (
    okc (ok_iret hret (by decide +kernel)) (
    okn)))))))))))))))))))))))))))))))))))))))))))))))))))))))))))))))))))))))))))))))))))))))))))))))))))))))))))
noncomputable def es_X12_changes  : List (Nat × En) := [(159, en_X12_valueAt), (160, en_X12_lays)]
noncomputable def ka_X12_changes_34   (n : Nat) : Kn SS (Int32 × SS) := fun pc ls st s => bif Nat.beq pc 34 then (match ls, st with
    | [some y0, some (.int x1), some (.int x2), some (.int x3), some (.int x4), some (.int x5)], [] => (gd (veq y0 (.ref 74)) (F_X12_changes_34 n x1 x2 x3 x4 x5 s))
    | _, _ => none) else (none)
set_option maxRecDepth 100000 in
set_option maxHeartbeats 4000000 in
theorem eq_X12_changes_34    (n : Nat) (x1 : Int32) (x2 : Int32) (x3 : Int32) (x4 : Int32) (x5 : Int32) (s : SS) : ex (tb_X12_changes (calE (es_X12_changes))) rI [34] (ka_X12_changes_34   n) 109 34 [some (.ref 74), some (.int x1), some (.int x2), some (.int x3), some (.int x4), some (.int x5)] [] s = F_X12_changes_34   (n + 1) x1 x2 x3 x4 x5 s := by
  rfl
set_option maxRecDepth 100000 in
set_option maxHeartbeats 4000000 in
theorem gd_X12_changes_34 {ad0 : Nat → Nat} {G : Gm} {A : Nat → Prop} {p : Program} {l : Launch} {e : Env} {R : Room} {s0 : State} {m : MethodId} {args : Array Value} {below : List Frame} {meth : Method} {c : Code} {Q : State → Prop} {r : (Int32 × SS)}   (hT : ∀ q ∈ tb_X12_changes (calE (es_X12_changes)), OKi G A 6 113 6344 ad0 p l e R s0 m args below meth c Q opsS rI r q.1 q.2)   : ∀ (n : Nat) (x1 : Int32) (x2 : Int32) (x3 : Int32) (x4 : Int32) (x5 : Int32) (s : SS), F_X12_changes_34   n x1 x2 x3 x4 x5 s = some r → Gd G A 6 113 6344 ad0 p l e R s0 m args below meth c Q opsS 34 [some (.ref 74), some (.int x1), some (.int x2), some (.int x3), some (.int x4), some (.int x5)] [] s := by
  intro n
  induction n with
  | zero =>
    intro x1 x2 x3 x4 x5 s hh
    exact absurd (show (none : Option (Int32 × SS)) = some r from hh) (by simp)
  | succ n ih =>
    intro x1 x2 x3 x4 x5 s hh
    rw [← eq_X12_changes_34    n x1 x2 x3 x4 x5 s] at hh
    refine ex_good hT (fun pc' ls' st' x' hh => ?_) 109 34 _ [] s hh
    unfold ka_X12_changes_34 at hh
    cases hb : Nat.beq pc' 34 with
    | true =>
      rw [hb] at hh
      have e9 := beq1 hb
      subst e9
      simp only [cond_true] at hh
      split at hh
      · obtain ⟨g0, hh1⟩ := gd_some hh
        have e0 := veq_of g0
        subst e0
        exact Gd.wk (ih _ _ _ _ _ _ hh1) (Lle.eq (Lle.eq (Lle.eq (Lle.eq (Lle.eq (Lle.eq Lle.nil))))))
      · cases hh
    | false =>
      rw [hb] at hh
      simp only [cond_false] at hh
      cases hh

noncomputable def ka_X12_changes  : Kn SS (Int32 × SS) := fun pc ls st s => bif Nat.beq pc 34 then (match ls, st with
    | [some y0, some (.int x1), some (.int x2), some (.int x3), some (.int x4), some (.int x5)], [] => (gd (veq y0 (.ref 74)) (F_X12_changes_34 fuel0 x1 x2 x3 x4 x5 s))
    | _, _ => none) else (none)
set_option maxRecDepth 100000 in
set_option maxHeartbeats 4000000 in
theorem eq_X12_changes   (a0 : Int32) (a1 : Int32) (a2 : Int32) (s : SS) : ex (tb_X12_changes (calE (es_X12_changes))) rI [34] (ka_X12_changes ) 109 0 [some (.ref 74), some (.int a0), some (.int a1), some (.int a2), none, none] [] s = f_X12_changes a0 a1 a2 s := by
  rfl
set_option maxRecDepth 100000 in
set_option maxHeartbeats 4000000 in
theorem run_X12_changes {l : Launch} {G : Gm}   (a0 : Int32) (a1 : Int32) (a2 : Int32) (s : SS) (q : (Int32 × SS)) (h : f_X12_changes a0 a1 a2 s = some q) (D' : Nat) (hD : 1 ≤ D') : RunsM l G (D' + 1) (md 161) (embS s) [.ref 74, .int a0, .int a1, .int a2] (some (.int q.1)) (embS q.2) := by
  rw [md_X12_changes]
  refine runs_I (plainFor_of_name (by decide +kernel)) (Nat.le_of_ble_eq_true rfl) rfl ?_
  intro A p e R s0 m args below meth c Q ad0 hR X hret
  have X : Cx G A RX12 cX12_changes 6 p s0 m args c := X
  have hT := tk_X12_changes X (calE_ok (es := es_X12_changes) (enc (en_X12_valueAt_ok _ (by omega)) (enc (en_X12_lays_ok _ (by omega)) (enn)))) (rmD rfl hR) hret
  rw [← eq_X12_changes   a0 a1 a2 s] at h
  refine ex_good hT (fun pc' ls' st' x' hh => ?_) 109 0 _ [] s h
  unfold ka_X12_changes at hh
  cases hb : Nat.beq pc' 34 with
  | true =>
    rw [hb] at hh
    have e9 := beq1 hb
    subst e9
    simp only [cond_true] at hh
    split at hh
    · obtain ⟨g0, hh1⟩ := gd_some hh
      have e0 := veq_of g0
      subst e0
      exact Gd.wk (gd_X12_changes_34 hT  _ _ _ _ _ _ _ hh1) (Lle.eq (Lle.eq (Lle.eq (Lle.eq (Lle.eq (Lle.eq Lle.nil))))))
    · cases hh
  | false =>
    rw [hb] at hh
    simp only [cond_false] at hh
    cases hh

noncomputable def en_X12_changes  : En := fun _ av s k => match av with
  | [.ref r0, .int a0, .int a1, .int a2] => (gd (Nat.beq r0 74) (bI (f_X12_changes a0 a1 a2 s) k))
  | _ => none
set_option maxRecDepth 100000 in
set_option maxHeartbeats 4000000 in
theorem en_X12_changes_ok {l : Launch} {G : Gm} (D : Nat) (hD : 2 ≤ D) : enOK l G D 161 en_X12_changes := by
  intro ρ av x k r h
  unfold en_X12_changes at h
  split at h
  · obtain ⟨g0, h⟩ := gd_some h
    obtain ⟨q, h1, h2⟩ := bind_of h
    have e0 := beq1 g0
    subst e0
    obtain ⟨D', rfl⟩ : ∃ D', D = D' + 1 := ⟨D - 1, by omega⟩
    exact ⟨_, _, h2, run_X12_changes  _ _ _ _ _ h1 D' (by omega)⟩
  · cases h

/-! HatRankModel undo -/
noncomputable def tb_X12_undo (cal : Cal SS) : List (Nat × Ins SS) := [(0, e_aload 0 1), (1, e_getI opsS 12 16 4), (4, e_ifne 10 7), (7, e_iconst (-5) 9), (9, e_iret), (10, e_aload 0 11), (11, e_dup 12), (12, e_getI opsS 12 16 15), (15, e_iconst (1) 16), (16, e_bin aSub 17), (17, e_putI opsS 12 16 20), (20, e_aload 0 21), (21, e_dup 22), (22, e_getI opsS 12 17 25), (25, e_iconst (1) 26), (26, e_bin aAdd 27), (27, e_putI opsS 12 17 30), (30, e_aload 0 31), (31, e_aload 0 32), (32, e_getR opsS 12 18 35), (35, e_aload 0 36), (36, e_getI opsS 12 16 39), (39, e_ald opsS 100 40), (40, e_aload 0 41), (41, e_getR opsS 12 19 44), (44, e_aload 0 45), (45, e_getI opsS 12 16 48), (48, e_ald opsS 100 49), (49, e_aload 0 50), (50, e_getR opsS 12 20 53), (53, e_aload 0 54), (54, e_getI opsS 12 16 57), (57, e_ald opsS 100 58), (58, e_callV opsS cal 160 3 12 61), (61, e_aload 0 62), (62, e_getI opsS 12 16 65), (65, e_iret)]
set_option maxRecDepth 100000 in
set_option maxHeartbeats 4000000 in
theorem tk_X12_undo {ad0 : Nat → Nat} {G : Gm} {A : Nat → Prop} {p : Program} {l : Launch} {e : Env} {R : Room} {s0 : State} {m : MethodId} {args : Array Value} {below : List Frame} {meth : Method} {c : Code} {Q : State → Prop} {ρ : Type} {ret : Option Value → SS → Option ρ} {r : ρ} (X : Cx G A RX12 cX12_undo 1 p s0 m args c) {D' : Nat} {cal : Cal SS} (hcal : calOK l G opsS D' cal) (hRm : ∀ k, k ≤ 21 → D' + 1 ≤ R.frames ∧ 8 + (k + 11) + 40 * D' ≤ R.locals) (hret : RetK G A cX12_undo 113 6344 ad0 p l e R s0 m args below meth c Q opsS ret r .ireturn okI) : ∀ q ∈ tb_X12_undo cal, OKi G A 1 113 6344 ad0 p l e R s0 m args below meth c Q opsS ret r q.1 q.2 :=
    okc (ok_aload_n (j := 0) X (by decide +kernel) rfl rfl) (
    okc (ok_getI (ci := 12) (kf := 16) (idx := 168) (C := RX12) (T := TX12) (N := 63) X rfl (by decide) inX12 (by decide) wf_X12_168 (fun _ _ _ => rfl) (by decide +kernel) rfl) (
    okc (ok_ifne (off := 6) X (by decide +kernel) (by decide) rfl) (
    okc (ok_bipush (n := -5) X (by decide +kernel) rfl rfl) (
    okc (ok_iret hret (by decide +kernel)) (
    okc (ok_aload_n (j := 0) X (by decide +kernel) rfl rfl) (
    okc (ok_dup X (by decide +kernel) rfl) (
    okc (ok_getI (ci := 12) (kf := 16) (idx := 168) (C := RX12) (T := TX12) (N := 63) X rfl (by decide) inX12 (by decide) wf_X12_168 (fun _ _ _ => rfl) (by decide +kernel) rfl) (
    okc (ok_iconst (n := 1) X (by decide +kernel) rfl rfl) (
    okc (ok_isub X (by decide +kernel) rfl) (
    okc (ok_putI (ci := 12) (kf := 16) (idx := 168) (C := RX12) (T := TX12) (N := 63) X opsS_ok rfl (by decide) inX12 tyX12_ok nmX12 (by decide) wf_X12_168 rfl (fun _ _ _ => rfl) (by decide +kernel) (by decide +kernel) rfl) (
    okc (ok_aload_n (j := 0) X (by decide +kernel) rfl rfl) (
    okc (ok_dup X (by decide +kernel) rfl) (
    okc (ok_getI (ci := 12) (kf := 17) (idx := 165) (C := RX12) (T := TX12) (N := 63) X rfl (by decide) inX12 (by decide) wf_X12_165 (fun _ _ _ => rfl) (by decide +kernel) rfl) (
    okc (ok_iconst (n := 1) X (by decide +kernel) rfl rfl) (
    okc (ok_iadd X (by decide +kernel) rfl) (
    okc (ok_putI (ci := 12) (kf := 17) (idx := 165) (C := RX12) (T := TX12) (N := 63) X opsS_ok rfl (by decide) inX12 tyX12_ok nmX12 (by decide) wf_X12_165 rfl (fun _ _ _ => rfl) (by decide +kernel) (by decide +kernel) rfl) (
    okc (ok_aload_n (j := 0) X (by decide +kernel) rfl rfl) (
    okc (ok_aload_n (j := 0) X (by decide +kernel) rfl rfl) (
    okc (ok_getR (ci := 12) (kf := 18) (idx := 40) (C := RX12) (T := TX12) (N := 63) X rfl (by decide) inX12 (by decide) wf_X12_40 (fun _ _ _ => rfl) (by decide +kernel) rfl) (
    okc (ok_aload_n (j := 0) X (by decide +kernel) rfl rfl) (
    okc (ok_getI (ci := 12) (kf := 16) (idx := 168) (C := RX12) (T := TX12) (N := 63) X rfl (by decide) inX12 (by decide) wf_X12_168 (fun _ _ _ => rfl) (by decide +kernel) rfl) (
    okc (ok_iald X (by decide +kernel) rfl) (
    okc (ok_aload_n (j := 0) X (by decide +kernel) rfl rfl) (
    okc (ok_getR (ci := 12) (kf := 19) (idx := 43) (C := RX12) (T := TX12) (N := 63) X rfl (by decide) inX12 (by decide) wf_X12_43 (fun _ _ _ => rfl) (by decide +kernel) rfl) (
    okc (ok_aload_n (j := 0) X (by decide +kernel) rfl rfl) (
    okc (ok_getI (ci := 12) (kf := 16) (idx := 168) (C := RX12) (T := TX12) (N := 63) X rfl (by decide) inX12 (by decide) wf_X12_168 (fun _ _ _ => rfl) (by decide +kernel) rfl) (
    okc (ok_iald X (by decide +kernel) rfl) (
    okc (ok_aload_n (j := 0) X (by decide +kernel) rfl rfl) (
    okc (ok_getR (ci := 12) (kf := 20) (idx := 46) (C := RX12) (T := TX12) (N := 63) X rfl (by decide) inX12 (by decide) wf_X12_46 (fun _ _ _ => rfl) (by decide +kernel) rfl) (
    okc (ok_aload_n (j := 0) X (by decide +kernel) rfl rfl) (
    okc (ok_getI (ci := 12) (kf := 16) (idx := 168) (C := RX12) (T := TX12) (N := 63) X rfl (by decide) inX12 (by decide) wf_X12_168 (fun _ _ _ => rfl) (by decide +kernel) rfl) (
    okc (ok_iald X (by decide +kernel) rfl) (
    okc (ok_callV (ci := 12) (C := RX12) (T := TX12) (N := 63) (Y := (yX12_lays, cX12_lays, 4, none)) X hcal opsS_n md_X12_lays rfl (by decide) rfl wc_X12_lays wl_X12_171 wi_X12 wm_X12_lays wv_X12_lays (by decide +kernel) (hRm 4 (by decide)) (by decide +kernel) rfl) (
    okc (ok_aload_n (j := 0) X (by decide +kernel) rfl rfl) (
    okc (ok_getI (ci := 12) (kf := 16) (idx := 168) (C := RX12) (T := TX12) (N := 63) X rfl (by decide) inX12 (by decide) wf_X12_168 (fun _ _ _ => rfl) (by decide +kernel) rfl) (
    okc (ok_iret hret (by decide +kernel)) (
    okn)))))))))))))))))))))))))))))))))))))
noncomputable def es_X12_undo  : List (Nat × En) := [(160, en_X12_lays)]
set_option maxRecDepth 100000 in
set_option maxHeartbeats 4000000 in
theorem eq_X12_undo    (s : SS) : ex (tb_X12_undo (calE (es_X12_undo))) rI [] (fun _ _ _ _ => none) 39 0 [some (.ref 74)] [] s = f_X12_undo  s := by
  rfl
set_option maxRecDepth 100000 in
set_option maxHeartbeats 4000000 in
theorem run_X12_undo {l : Launch} {G : Gm}    (s : SS) (q : (Int32 × SS)) (h : f_X12_undo  s = some q) (D' : Nat) (hD : 1 ≤ D') : RunsM l G (D' + 1) (md 162) (embS s) [.ref 74] (some (.int q.1)) (embS q.2) := by
  rw [md_X12_undo]
  refine runs_I (plainFor_of_name (by decide +kernel)) (Nat.le_of_ble_eq_true rfl) rfl ?_
  intro A p e R s0 m args below meth c Q ad0 hR X hret
  have X : Cx G A RX12 cX12_undo 1 p s0 m args c := X
  have hT := tk_X12_undo X (calE_ok (es := es_X12_undo) (enc (en_X12_lays_ok _ (by omega)) (enn))) (rmD rfl hR) hret
  rw [← eq_X12_undo    s] at h
  refine ex_good hT (fun pc' ls' st' x' hh => ?_) 39 0 _ [] s h
  cases hh

noncomputable def en_X12_undo  : En := fun _ av s k => match av with
  | [.ref r0] => (gd (Nat.beq r0 74) (bI (f_X12_undo  s) k))
  | _ => none
set_option maxRecDepth 100000 in
set_option maxHeartbeats 4000000 in
theorem en_X12_undo_ok {l : Launch} {G : Gm} (D : Nat) (hD : 2 ≤ D) : enOK l G D 162 en_X12_undo := by
  intro ρ av x k r h
  unfold en_X12_undo at h
  split at h
  · obtain ⟨g0, h⟩ := gd_some h
    obtain ⟨q, h1, h2⟩ := bind_of h
    have e0 := beq1 g0
    subst e0
    obtain ⟨D', rfl⟩ : ∃ D', D = D' + 1 := ⟨D - 1, by omega⟩
    exact ⟨_, _, h2, run_X12_undo   _ _ h1 D' (by omega)⟩
  · cases h

/-! HatRankModel redo -/
noncomputable def tb_X12_redo (cal : Cal SS) : List (Nat × Ins SS) := [(0, e_aload 0 1), (1, e_getI opsS 12 17 4), (4, e_ifne 10 7), (7, e_iconst (-5) 9), (9, e_iret), (10, e_aload 0 11), (11, e_aload 0 12), (12, e_getR opsS 12 18 15), (15, e_aload 0 16), (16, e_getI opsS 12 16 19), (19, e_ald opsS 100 20), (20, e_aload 0 21), (21, e_getR opsS 12 19 24), (24, e_aload 0 25), (25, e_getI opsS 12 16 28), (28, e_ald opsS 100 29), (29, e_aload 0 30), (30, e_getR opsS 12 21 33), (33, e_aload 0 34), (34, e_getI opsS 12 16 37), (37, e_ald opsS 100 38), (38, e_callV opsS cal 160 3 12 41), (41, e_aload 0 42), (42, e_dup 43), (43, e_getI opsS 12 16 46), (46, e_iconst (1) 47), (47, e_bin aAdd 48), (48, e_putI opsS 12 16 51), (51, e_aload 0 52), (52, e_dup 53), (53, e_getI opsS 12 17 56), (56, e_iconst (1) 57), (57, e_bin aSub 58), (58, e_putI opsS 12 17 61), (61, e_aload 0 62), (62, e_getI opsS 12 17 65), (65, e_iret)]
set_option maxRecDepth 100000 in
set_option maxHeartbeats 4000000 in
theorem tk_X12_redo {ad0 : Nat → Nat} {G : Gm} {A : Nat → Prop} {p : Program} {l : Launch} {e : Env} {R : Room} {s0 : State} {m : MethodId} {args : Array Value} {below : List Frame} {meth : Method} {c : Code} {Q : State → Prop} {ρ : Type} {ret : Option Value → SS → Option ρ} {r : ρ} (X : Cx G A RX12 cX12_redo 1 p s0 m args c) {D' : Nat} {cal : Cal SS} (hcal : calOK l G opsS D' cal) (hRm : ∀ k, k ≤ 21 → D' + 1 ≤ R.frames ∧ 8 + (k + 11) + 40 * D' ≤ R.locals) (hret : RetK G A cX12_redo 113 6344 ad0 p l e R s0 m args below meth c Q opsS ret r .ireturn okI) : ∀ q ∈ tb_X12_redo cal, OKi G A 1 113 6344 ad0 p l e R s0 m args below meth c Q opsS ret r q.1 q.2 :=
    okc (ok_aload_n (j := 0) X (by decide +kernel) rfl rfl) (
    okc (ok_getI (ci := 12) (kf := 17) (idx := 165) (C := RX12) (T := TX12) (N := 63) X rfl (by decide) inX12 (by decide) wf_X12_165 (fun _ _ _ => rfl) (by decide +kernel) rfl) (
    okc (ok_ifne (off := 6) X (by decide +kernel) (by decide) rfl) (
    okc (ok_bipush (n := -5) X (by decide +kernel) rfl rfl) (
    okc (ok_iret hret (by decide +kernel)) (
    okc (ok_aload_n (j := 0) X (by decide +kernel) rfl rfl) (
    okc (ok_aload_n (j := 0) X (by decide +kernel) rfl rfl) (
    okc (ok_getR (ci := 12) (kf := 18) (idx := 40) (C := RX12) (T := TX12) (N := 63) X rfl (by decide) inX12 (by decide) wf_X12_40 (fun _ _ _ => rfl) (by decide +kernel) rfl) (
    okc (ok_aload_n (j := 0) X (by decide +kernel) rfl rfl) (
    okc (ok_getI (ci := 12) (kf := 16) (idx := 168) (C := RX12) (T := TX12) (N := 63) X rfl (by decide) inX12 (by decide) wf_X12_168 (fun _ _ _ => rfl) (by decide +kernel) rfl) (
    okc (ok_iald X (by decide +kernel) rfl) (
    okc (ok_aload_n (j := 0) X (by decide +kernel) rfl rfl) (
    okc (ok_getR (ci := 12) (kf := 19) (idx := 43) (C := RX12) (T := TX12) (N := 63) X rfl (by decide) inX12 (by decide) wf_X12_43 (fun _ _ _ => rfl) (by decide +kernel) rfl) (
    okc (ok_aload_n (j := 0) X (by decide +kernel) rfl rfl) (
    okc (ok_getI (ci := 12) (kf := 16) (idx := 168) (C := RX12) (T := TX12) (N := 63) X rfl (by decide) inX12 (by decide) wf_X12_168 (fun _ _ _ => rfl) (by decide +kernel) rfl) (
    okc (ok_iald X (by decide +kernel) rfl) (
    okc (ok_aload_n (j := 0) X (by decide +kernel) rfl rfl) (
    okc (ok_getR (ci := 12) (kf := 21) (idx := 49) (C := RX12) (T := TX12) (N := 63) X rfl (by decide) inX12 (by decide) wf_X12_49 (fun _ _ _ => rfl) (by decide +kernel) rfl) (
    okc (ok_aload_n (j := 0) X (by decide +kernel) rfl rfl) (
    okc (ok_getI (ci := 12) (kf := 16) (idx := 168) (C := RX12) (T := TX12) (N := 63) X rfl (by decide) inX12 (by decide) wf_X12_168 (fun _ _ _ => rfl) (by decide +kernel) rfl) (
    okc (ok_iald X (by decide +kernel) rfl) (
    okc (ok_callV (ci := 12) (C := RX12) (T := TX12) (N := 63) (Y := (yX12_lays, cX12_lays, 4, none)) X hcal opsS_n md_X12_lays rfl (by decide) rfl wc_X12_lays wl_X12_171 wi_X12 wm_X12_lays wv_X12_lays (by decide +kernel) (hRm 4 (by decide)) (by decide +kernel) rfl) (
    okc (ok_aload_n (j := 0) X (by decide +kernel) rfl rfl) (
    okc (ok_dup X (by decide +kernel) rfl) (
    okc (ok_getI (ci := 12) (kf := 16) (idx := 168) (C := RX12) (T := TX12) (N := 63) X rfl (by decide) inX12 (by decide) wf_X12_168 (fun _ _ _ => rfl) (by decide +kernel) rfl) (
    okc (ok_iconst (n := 1) X (by decide +kernel) rfl rfl) (
    okc (ok_iadd X (by decide +kernel) rfl) (
    okc (ok_putI (ci := 12) (kf := 16) (idx := 168) (C := RX12) (T := TX12) (N := 63) X opsS_ok rfl (by decide) inX12 tyX12_ok nmX12 (by decide) wf_X12_168 rfl (fun _ _ _ => rfl) (by decide +kernel) (by decide +kernel) rfl) (
    okc (ok_aload_n (j := 0) X (by decide +kernel) rfl rfl) (
    okc (ok_dup X (by decide +kernel) rfl) (
    okc (ok_getI (ci := 12) (kf := 17) (idx := 165) (C := RX12) (T := TX12) (N := 63) X rfl (by decide) inX12 (by decide) wf_X12_165 (fun _ _ _ => rfl) (by decide +kernel) rfl) (
    okc (ok_iconst (n := 1) X (by decide +kernel) rfl rfl) (
    okc (ok_isub X (by decide +kernel) rfl) (
    okc (ok_putI (ci := 12) (kf := 17) (idx := 165) (C := RX12) (T := TX12) (N := 63) X opsS_ok rfl (by decide) inX12 tyX12_ok nmX12 (by decide) wf_X12_165 rfl (fun _ _ _ => rfl) (by decide +kernel) (by decide +kernel) rfl) (
    okc (ok_aload_n (j := 0) X (by decide +kernel) rfl rfl) (
    okc (ok_getI (ci := 12) (kf := 17) (idx := 165) (C := RX12) (T := TX12) (N := 63) X rfl (by decide) inX12 (by decide) wf_X12_165 (fun _ _ _ => rfl) (by decide +kernel) rfl) (
    okc (ok_iret hret (by decide +kernel)) (
    okn)))))))))))))))))))))))))))))))))))))
noncomputable def es_X12_redo  : List (Nat × En) := [(160, en_X12_lays)]
set_option maxRecDepth 100000 in
set_option maxHeartbeats 4000000 in
theorem eq_X12_redo    (s : SS) : ex (tb_X12_redo (calE (es_X12_redo))) rI [] (fun _ _ _ _ => none) 39 0 [some (.ref 74)] [] s = f_X12_redo  s := by
  rfl
set_option maxRecDepth 100000 in
set_option maxHeartbeats 4000000 in
theorem run_X12_redo {l : Launch} {G : Gm}    (s : SS) (q : (Int32 × SS)) (h : f_X12_redo  s = some q) (D' : Nat) (hD : 1 ≤ D') : RunsM l G (D' + 1) (md 163) (embS s) [.ref 74] (some (.int q.1)) (embS q.2) := by
  rw [md_X12_redo]
  refine runs_I (plainFor_of_name (by decide +kernel)) (Nat.le_of_ble_eq_true rfl) rfl ?_
  intro A p e R s0 m args below meth c Q ad0 hR X hret
  have X : Cx G A RX12 cX12_redo 1 p s0 m args c := X
  have hT := tk_X12_redo X (calE_ok (es := es_X12_redo) (enc (en_X12_lays_ok _ (by omega)) (enn))) (rmD rfl hR) hret
  rw [← eq_X12_redo    s] at h
  refine ex_good hT (fun pc' ls' st' x' hh => ?_) 39 0 _ [] s h
  cases hh

noncomputable def en_X12_redo  : En := fun _ av s k => match av with
  | [.ref r0] => (gd (Nat.beq r0 74) (bI (f_X12_redo  s) k))
  | _ => none
set_option maxRecDepth 100000 in
set_option maxHeartbeats 4000000 in
theorem en_X12_redo_ok {l : Launch} {G : Gm} (D : Nat) (hD : 2 ≤ D) : enOK l G D 163 en_X12_redo := by
  intro ρ av x k r h
  unfold en_X12_redo at h
  split at h
  · obtain ⟨g0, h⟩ := gd_some h
    obtain ⟨q, h1, h2⟩ := bind_of h
    have e0 := beq1 g0
    subst e0
    obtain ⟨D', rfl⟩ : ∃ D', D = D' + 1 := ⟨D - 1, by omega⟩
    exact ⟨_, _, h2, run_X12_redo   _ _ h1 D' (by omega)⟩
  · cases h

/-! HatRankModel mend -/
noncomputable def tb_X12_mend (cal : Cal SS) : List (Nat × Ins SS) := [(0, e_iload 2 1), (1, e_sw [(0, 32), (1, 62), (2, 92), (3, 122)] 151), (32, e_aload 0 33), (33, e_iload 1 34), (34, e_callV opsS cal 151 1 12 37), (37, e_ifeq 60 40), (40, e_iload 3 41), (41, e_iconst (0) 42), (42, e_iconst (9) 44), (44, e_callS cal 149 3 47), (47, e_ifeq 60 50), (50, e_aload 0 51), (51, e_iconst (0) 52), (52, e_iload 1 53), (53, e_iload 3 54), (54, e_callV opsS cal 161 3 12 57), (57, e_goto 61), (60, e_iconst (-1) 61), (61, e_iret), (62, e_aload 0 63), (63, e_iload 1 64), (64, e_callV opsS cal 150 1 12 67), (67, e_ifeq 90 70), (70, e_iload 3 71), (71, e_iconst (0) 72), (72, e_iconst (9) 74), (74, e_callS cal 149 3 77), (77, e_ifeq 90 80), (80, e_aload 0 81), (81, e_iconst (1) 82), (82, e_iload 1 83), (83, e_iload 3 84), (84, e_callV opsS cal 161 3 12 87), (87, e_goto 91), (90, e_iconst (-1) 91), (91, e_iret), (92, e_aload 0 93), (93, e_iload 1 94), (94, e_callV opsS cal 150 1 12 97), (97, e_ifeq 120 100), (100, e_iload 3 101), (101, e_iconst (0) 102), (102, e_iconst (6) 104), (104, e_callS cal 149 3 107), (107, e_ifeq 120 110), (110, e_aload 0 111), (111, e_iconst (2) 112), (112, e_iload 1 113), (113, e_iload 3 114), (114, e_callV opsS cal 161 3 12 117), (117, e_goto 121), (120, e_iconst (-1) 121), (121, e_iret), (122, e_iload 1 123), (123, e_callS cal 152 1 126), (126, e_ifeq 149 129), (129, e_iload 3 130), (130, e_iconst (0) 131), (131, e_iconst (9) 133), (133, e_callS cal 149 3 136), (136, e_ifeq 149 139), (139, e_aload 0 140), (140, e_iconst (3) 141), (141, e_iload 1 142), (142, e_iload 3 143), (143, e_callV opsS cal 161 3 12 146), (146, e_goto 150), (149, e_iconst (-1) 150), (150, e_iret), (151, e_iconst (-1) 152), (152, e_iret)]
set_option maxRecDepth 100000 in
set_option maxHeartbeats 4000000 in
theorem tk_X12_mend {ad0 : Nat → Nat} {G : Gm} {A : Nat → Prop} {p : Program} {l : Launch} {e : Env} {R : Room} {s0 : State} {m : MethodId} {args : Array Value} {below : List Frame} {meth : Method} {c : Code} {Q : State → Prop} {ρ : Type} {ret : Option Value → SS → Option ρ} {r : ρ} (X : Cx G A RX12 cX12_mend 4 p s0 m args c) {D' : Nat} {cal : Cal SS} (hcal : calOK l G opsS D' cal) (hRm : ∀ k, k ≤ 21 → D' + 1 ≤ R.frames ∧ 8 + (k + 11) + 40 * D' ≤ R.locals) (hret : RetK G A cX12_mend 113 6344 ad0 p l e R s0 m args below meth c Q opsS ret r .ireturn okI) : ∀ q ∈ tb_X12_mend cal, OKi G A 4 113 6344 ad0 p l e R s0 m args below meth c Q opsS ret r q.1 q.2 :=
    okc (ok_iload_n (j := 2) X (by decide +kernel) rfl rfl) (
    okc (ok_tsw (dflt := 150) (lo := 0) (hi := 3) (offs := #[31, 61, 91, 121]) (len := 31) X (by decide +kernel) (tsw_out 1 150 0 3 #[31, 61, 91, 121] (by decide +kernel)) (tsw_in 1 150 0 3 #[31, 61, 91, 121] (by decide +kernel))) (
    okc (ok_aload_n (j := 0) X (by decide +kernel) rfl rfl) (
    okc (ok_iload_n (j := 1) X (by decide +kernel) rfl rfl) (
    okc (ok_callV (ci := 12) (C := RX12) (T := TX12) (N := 63) (Y := (yX12_isPerson, cX12_isPerson, 2, (some .boolean))) X hcal opsS_n md_X12_isPerson rfl (by decide) rfl wc_X12_isPerson wl_X12_175 wi_X12 wm_X12_isPerson wv_X12_isPerson (by decide +kernel) (hRm 2 (by decide)) (by decide +kernel) rfl) (
    okc (ok_ifeq (off := 23) X (by decide +kernel) (by decide) rfl) (
    okc (ok_iload_n (j := 3) X (by decide +kernel) rfl rfl) (
    okc (ok_iconst (n := 0) X (by decide +kernel) rfl rfl) (
    okc (ok_bipush (n := 9) X (by decide +kernel) rfl rfl) (
    okc (ok_callS (Y := (yX12_in, cX12_in, 3, (some .boolean))) X hcal opsS_n md_X12_in wc_X12_in wl_X12_134 wi_X12 ws_X12_in (by decide +kernel) (hRm 3 (by decide)) (by decide +kernel) rfl) (
    okc (ok_ifeq (off := 13) X (by decide +kernel) (by decide) rfl) (
    okc (ok_aload_n (j := 0) X (by decide +kernel) rfl rfl) (
    okc (ok_iconst (n := 0) X (by decide +kernel) rfl rfl) (
    okc (ok_iload_n (j := 1) X (by decide +kernel) rfl rfl) (
    okc (ok_iload_n (j := 3) X (by decide +kernel) rfl rfl) (
    okc (ok_callV (ci := 12) (C := RX12) (T := TX12) (N := 63) (Y := (yX12_changes, cX12_changes, 6, (some .int))) X hcal opsS_n md_X12_changes rfl (by decide) rfl wc_X12_changes wl_X12_178 wi_X12 wm_X12_changes wv_X12_changes (by decide +kernel) (hRm 6 (by decide)) (by decide +kernel) rfl) (
    okc (ok_goto (off := 4) X (by decide +kernel) (by decide)) (
    okc (ok_iconst (n := -1) X (by decide +kernel) rfl rfl) (
    okc (ok_iret hret (by decide +kernel)) (
    okc (ok_aload_n (j := 0) X (by decide +kernel) rfl rfl) (
    okc (ok_iload_n (j := 1) X (by decide +kernel) rfl rfl) (
    okc (ok_callV (ci := 12) (C := RX12) (T := TX12) (N := 63) (Y := (yX12_isPlace, cX12_isPlace, 2, (some .boolean))) X hcal opsS_n md_X12_isPlace rfl (by decide) rfl wc_X12_isPlace wl_X12_144 wi_X12 wm_X12_isPlace wv_X12_isPlace (by decide +kernel) (hRm 2 (by decide)) (by decide +kernel) rfl) (
    okc (ok_ifeq (off := 23) X (by decide +kernel) (by decide) rfl) (
    okc (ok_iload_n (j := 3) X (by decide +kernel) rfl rfl) (
    okc (ok_iconst (n := 0) X (by decide +kernel) rfl rfl) (
    okc (ok_bipush (n := 9) X (by decide +kernel) rfl rfl) (
    okc (ok_callS (Y := (yX12_in, cX12_in, 3, (some .boolean))) X hcal opsS_n md_X12_in wc_X12_in wl_X12_134 wi_X12 ws_X12_in (by decide +kernel) (hRm 3 (by decide)) (by decide +kernel) rfl) (
    okc (ok_ifeq (off := 13) X (by decide +kernel) (by decide) rfl) (
    okc (ok_aload_n (j := 0) X (by decide +kernel) rfl rfl) (
    okc (ok_iconst (n := 1) X (by decide +kernel) rfl rfl) (
    okc (ok_iload_n (j := 1) X (by decide +kernel) rfl rfl) (
    okc (ok_iload_n (j := 3) X (by decide +kernel) rfl rfl) (
    okc (ok_callV (ci := 12) (C := RX12) (T := TX12) (N := 63) (Y := (yX12_changes, cX12_changes, 6, (some .int))) X hcal opsS_n md_X12_changes rfl (by decide) rfl wc_X12_changes wl_X12_178 wi_X12 wm_X12_changes wv_X12_changes (by decide +kernel) (hRm 6 (by decide)) (by decide +kernel) rfl) (
    okc (ok_goto (off := 4) X (by decide +kernel) (by decide)) (
    okc (ok_iconst (n := -1) X (by decide +kernel) rfl rfl) (
    okc (ok_iret hret (by decide +kernel)) (
    okc (ok_aload_n (j := 0) X (by decide +kernel) rfl rfl) (
    okc (ok_iload_n (j := 1) X (by decide +kernel) rfl rfl) (
    okc (ok_callV (ci := 12) (C := RX12) (T := TX12) (N := 63) (Y := (yX12_isPlace, cX12_isPlace, 2, (some .boolean))) X hcal opsS_n md_X12_isPlace rfl (by decide) rfl wc_X12_isPlace wl_X12_144 wi_X12 wm_X12_isPlace wv_X12_isPlace (by decide +kernel) (hRm 2 (by decide)) (by decide +kernel) rfl) (
    okc (ok_ifeq (off := 23) X (by decide +kernel) (by decide) rfl) (
    okc (ok_iload_n (j := 3) X (by decide +kernel) rfl rfl) (
    okc (ok_iconst (n := 0) X (by decide +kernel) rfl rfl) (
    okc (ok_bipush (n := 6) X (by decide +kernel) rfl rfl) (
    okc (ok_callS (Y := (yX12_in, cX12_in, 3, (some .boolean))) X hcal opsS_n md_X12_in wc_X12_in wl_X12_134 wi_X12 ws_X12_in (by decide +kernel) (hRm 3 (by decide)) (by decide +kernel) rfl) (
    okc (ok_ifeq (off := 13) X (by decide +kernel) (by decide) rfl) (
    okc (ok_aload_n (j := 0) X (by decide +kernel) rfl rfl) (
    okc (ok_iconst (n := 2) X (by decide +kernel) rfl rfl) (
    okc (ok_iload_n (j := 1) X (by decide +kernel) rfl rfl) (
    okc (ok_iload_n (j := 3) X (by decide +kernel) rfl rfl) (
    okc (ok_callV (ci := 12) (C := RX12) (T := TX12) (N := 63) (Y := (yX12_changes, cX12_changes, 6, (some .int))) X hcal opsS_n md_X12_changes rfl (by decide) rfl wc_X12_changes wl_X12_178 wi_X12 wm_X12_changes wv_X12_changes (by decide +kernel) (hRm 6 (by decide)) (by decide +kernel) rfl) (
    okc (ok_goto (off := 4) X (by decide +kernel) (by decide)) (
    okc (ok_iconst (n := -1) X (by decide +kernel) rfl rfl) (
    okc (ok_iret hret (by decide +kernel)) (
    okc (ok_iload_n (j := 1) X (by decide +kernel) rfl rfl) (
    okc (ok_callS (Y := (yX12_isHour, cX12_isHour, 1, (some .boolean))) X hcal opsS_n md_X12_isHour wc_X12_isHour wl_X12_181 wi_X12 ws_X12_isHour (by decide +kernel) (hRm 1 (by decide)) (by decide +kernel) rfl) (
    okc (ok_ifeq (off := 23) X (by decide +kernel) (by decide) rfl) (
    okc (ok_iload_n (j := 3) X (by decide +kernel) rfl rfl) (
    okc (ok_iconst (n := 0) X (by decide +kernel) rfl rfl) (
    okc (ok_bipush (n := 9) X (by decide +kernel) rfl rfl) (
    okc (ok_callS (Y := (yX12_in, cX12_in, 3, (some .boolean))) X hcal opsS_n md_X12_in wc_X12_in wl_X12_134 wi_X12 ws_X12_in (by decide +kernel) (hRm 3 (by decide)) (by decide +kernel) rfl) (
    okc (ok_ifeq (off := 13) X (by decide +kernel) (by decide) rfl) (
    okc (ok_aload_n (j := 0) X (by decide +kernel) rfl rfl) (
    okc (ok_iconst (n := 3) X (by decide +kernel) rfl rfl) (
    okc (ok_iload_n (j := 1) X (by decide +kernel) rfl rfl) (
    okc (ok_iload_n (j := 3) X (by decide +kernel) rfl rfl) (
    okc (ok_callV (ci := 12) (C := RX12) (T := TX12) (N := 63) (Y := (yX12_changes, cX12_changes, 6, (some .int))) X hcal opsS_n md_X12_changes rfl (by decide) rfl wc_X12_changes wl_X12_178 wi_X12 wm_X12_changes wv_X12_changes (by decide +kernel) (hRm 6 (by decide)) (by decide +kernel) rfl) (
    okc (ok_goto (off := 4) X (by decide +kernel) (by decide)) (
    okc (ok_iconst (n := -1) X (by decide +kernel) rfl rfl) (
    okc (ok_iret hret (by decide +kernel)) (
    okc (ok_iconst (n := -1) X (by decide +kernel) rfl rfl) (
    okc (ok_iret hret (by decide +kernel)) (
    okn)))))))))))))))))))))))))))))))))))))))))))))))))))))))))))))))))))))))
noncomputable def es_X12_mend  : List (Nat × En) := [(151, en_X12_isPerson), (149, en_X12_in), (161, en_X12_changes), (150, en_X12_isPlace), (152, en_X12_isHour)]
set_option maxRecDepth 100000 in
set_option maxHeartbeats 4000000 in
theorem eq_X12_mend   (a0 : Int32) (a1 : Int32) (a2 : Int32) (s : SS) : ex (tb_X12_mend (calE (es_X12_mend))) rI [] (fun _ _ _ _ => none) 73 0 [some (.ref 74), some (.int a0), some (.int a1), some (.int a2)] [] s = f_X12_mend a0 a1 a2 s := by
  rfl
set_option maxRecDepth 100000 in
set_option maxHeartbeats 4000000 in
theorem run_X12_mend {l : Launch} {G : Gm}   (a0 : Int32) (a1 : Int32) (a2 : Int32) (s : SS) (q : (Int32 × SS)) (h : f_X12_mend a0 a1 a2 s = some q) (D' : Nat) (hD : 2 ≤ D') : RunsM l G (D' + 1) (md 164) (embS s) [.ref 74, .int a0, .int a1, .int a2] (some (.int q.1)) (embS q.2) := by
  rw [md_X12_mend]
  refine runs_I (plainFor_of_name (by decide +kernel)) (Nat.le_of_ble_eq_true rfl) rfl ?_
  intro A p e R s0 m args below meth c Q ad0 hR X hret
  have X : Cx G A RX12 cX12_mend 4 p s0 m args c := X
  have hT := tk_X12_mend X (calE_ok (es := es_X12_mend) (enc (en_X12_isPerson_ok _ (by omega)) (enc (en_X12_in_ok _ (by omega)) (enc (en_X12_changes_ok _ (by omega)) (enc (en_X12_isPlace_ok _ (by omega)) (enc (en_X12_isHour_ok _ (by omega)) (enn))))))) (rmD rfl hR) hret
  rw [← eq_X12_mend   a0 a1 a2 s] at h
  refine ex_good hT (fun pc' ls' st' x' hh => ?_) 73 0 _ [] s h
  cases hh

noncomputable def en_X12_mend  : En := fun _ av s k => match av with
  | [.ref r0, .int a0, .int a1, .int a2] => (gd (Nat.beq r0 74) (bI (f_X12_mend a0 a1 a2 s) k))
  | _ => none
set_option maxRecDepth 100000 in
set_option maxHeartbeats 4000000 in
theorem en_X12_mend_ok {l : Launch} {G : Gm} (D : Nat) (hD : 3 ≤ D) : enOK l G D 164 en_X12_mend := by
  intro ρ av x k r h
  unfold en_X12_mend at h
  split at h
  · obtain ⟨g0, h⟩ := gd_some h
    obtain ⟨q, h1, h2⟩ := bind_of h
    have e0 := beq1 g0
    subst e0
    obtain ⟨D', rfl⟩ : ∃ D', D = D' + 1 := ⟨D - 1, by omega⟩
    exact ⟨_, _, h2, run_X12_mend  _ _ _ _ _ h1 D' (by omega)⟩
  · cases h

/-! HatRankModel feed -/
noncomputable def tb_X12_feed (cal : Cal SS) : List (Nat × Ins SS) := [(0, e_iload 1 1), (1, e_iconst (0) 2), (2, e_iconst (255) 5), (5, e_callS cal 149 3 8), (8, e_ifne 13 11), (11, e_iconst (-1) 12), (12, e_iret), (13, e_aload 0 14), (14, e_getI opsS 12 23 17), (17, e_iconst (120) 19), (19, e_cne 25 22), (22, e_iconst (-3) 24), (24, e_iret), (25, e_aload 0 26), (26, e_getR opsS 12 22 29), (29, e_aload 0 30), (30, e_getI opsS 12 23 33), (33, e_iload 1 34), (34, e_un aB 35), (35, e_ast opsS 102 aB 36), (36, e_aload 0 37), (37, e_dup 38), (38, e_getI opsS 12 23 41), (41, e_iconst (1) 42), (42, e_bin aAdd 43), (43, e_putI opsS 12 23 46), (46, e_aload 0 47), (47, e_getI opsS 12 23 50), (50, e_iret)]
set_option maxRecDepth 100000 in
set_option maxHeartbeats 4000000 in
theorem tk_X12_feed {ad0 : Nat → Nat} {G : Gm} {A : Nat → Prop} {p : Program} {l : Launch} {e : Env} {R : Room} {s0 : State} {m : MethodId} {args : Array Value} {below : List Frame} {meth : Method} {c : Code} {Q : State → Prop} {ρ : Type} {ret : Option Value → SS → Option ρ} {r : ρ} (X : Cx G A RX12 cX12_feed 2 p s0 m args c) {D' : Nat} {cal : Cal SS} (hcal : calOK l G opsS D' cal) (hRm : ∀ k, k ≤ 21 → D' + 1 ≤ R.frames ∧ 8 + (k + 11) + 40 * D' ≤ R.locals) (hret : RetK G A cX12_feed 113 6344 ad0 p l e R s0 m args below meth c Q opsS ret r .ireturn okI) : ∀ q ∈ tb_X12_feed cal, OKi G A 2 113 6344 ad0 p l e R s0 m args below meth c Q opsS ret r q.1 q.2 :=
    okc (ok_iload_n (j := 1) X (by decide +kernel) rfl rfl) (
    okc (ok_iconst (n := 0) X (by decide +kernel) rfl rfl) (
    okc (ok_sipush (n := 255) X (by decide +kernel) rfl rfl) (
    okc (ok_callS (Y := (yX12_in, cX12_in, 3, (some .boolean))) X hcal opsS_n md_X12_in wc_X12_in wl_X12_134 wi_X12 ws_X12_in (by decide +kernel) (hRm 3 (by decide)) (by decide +kernel) rfl) (
    okc (ok_ifne (off := 5) X (by decide +kernel) (by decide) rfl) (
    okc (ok_iconst (n := -1) X (by decide +kernel) rfl rfl) (
    okc (ok_iret hret (by decide +kernel)) (
    okc (ok_aload_n (j := 0) X (by decide +kernel) rfl rfl) (
    okc (ok_getI (ci := 12) (kf := 23) (idx := 184) (C := RX12) (T := TX12) (N := 63) X rfl (by decide) inX12 (by decide) wf_X12_184 (fun _ _ _ => rfl) (by decide +kernel) rfl) (
    okc (ok_bipush (n := 120) X (by decide +kernel) rfl rfl) (
    okc (ok_cne (off := 6) X (by decide +kernel) (by decide) rfl) (
    okc (ok_bipush (n := -3) X (by decide +kernel) rfl rfl) (
    okc (ok_iret hret (by decide +kernel)) (
    okc (ok_aload_n (j := 0) X (by decide +kernel) rfl rfl) (
    okc (ok_getR (ci := 12) (kf := 22) (idx := 52) (C := RX12) (T := TX12) (N := 63) X rfl (by decide) inX12 (by decide) wf_X12_52 (fun _ _ _ => rfl) (by decide +kernel) rfl) (
    okc (ok_aload_n (j := 0) X (by decide +kernel) rfl rfl) (
    okc (ok_getI (ci := 12) (kf := 23) (idx := 184) (C := RX12) (T := TX12) (N := 63) X rfl (by decide) inX12 (by decide) wf_X12_184 (fun _ _ _ => rfl) (by decide +kernel) rfl) (
    okc (ok_iload_n (j := 1) X (by decide +kernel) rfl rfl) (
    okc (ok_i2b X (by decide +kernel) rfl) (
    okc (ok_bast X opsS_ok (by decide +kernel) rfl) (
    okc (ok_aload_n (j := 0) X (by decide +kernel) rfl rfl) (
    okc (ok_dup X (by decide +kernel) rfl) (
    okc (ok_getI (ci := 12) (kf := 23) (idx := 184) (C := RX12) (T := TX12) (N := 63) X rfl (by decide) inX12 (by decide) wf_X12_184 (fun _ _ _ => rfl) (by decide +kernel) rfl) (
    okc (ok_iconst (n := 1) X (by decide +kernel) rfl rfl) (
    okc (ok_iadd X (by decide +kernel) rfl) (
    okc (ok_putI (ci := 12) (kf := 23) (idx := 184) (C := RX12) (T := TX12) (N := 63) X opsS_ok rfl (by decide) inX12 tyX12_ok nmX12 (by decide) wf_X12_184 rfl (fun _ _ _ => rfl) (by decide +kernel) (by decide +kernel) rfl) (
    okc (ok_aload_n (j := 0) X (by decide +kernel) rfl rfl) (
    okc (ok_getI (ci := 12) (kf := 23) (idx := 184) (C := RX12) (T := TX12) (N := 63) X rfl (by decide) inX12 (by decide) wf_X12_184 (fun _ _ _ => rfl) (by decide +kernel) rfl) (
    okc (ok_iret hret (by decide +kernel)) (
    okn)))))))))))))))))))))))))))))
noncomputable def es_X12_feed  : List (Nat × En) := [(149, en_X12_in)]
set_option maxRecDepth 100000 in
set_option maxHeartbeats 4000000 in
theorem eq_X12_feed   (a0 : Int32) (s : SS) : ex (tb_X12_feed (calE (es_X12_feed))) rI [] (fun _ _ _ _ => none) 31 0 [some (.ref 74), some (.int a0)] [] s = f_X12_feed a0 s := by
  rfl
set_option maxRecDepth 100000 in
set_option maxHeartbeats 4000000 in
theorem run_X12_feed {l : Launch} {G : Gm}   (a0 : Int32) (s : SS) (q : (Int32 × SS)) (h : f_X12_feed a0 s = some q) (D' : Nat) (hD : 1 ≤ D') : RunsM l G (D' + 1) (md 165) (embS s) [.ref 74, .int a0] (some (.int q.1)) (embS q.2) := by
  rw [md_X12_feed]
  refine runs_I (plainFor_of_name (by decide +kernel)) (Nat.le_of_ble_eq_true rfl) rfl ?_
  intro A p e R s0 m args below meth c Q ad0 hR X hret
  have X : Cx G A RX12 cX12_feed 2 p s0 m args c := X
  have hT := tk_X12_feed X (calE_ok (es := es_X12_feed) (enc (en_X12_in_ok _ (by omega)) (enn))) (rmD rfl hR) hret
  rw [← eq_X12_feed   a0 s] at h
  refine ex_good hT (fun pc' ls' st' x' hh => ?_) 31 0 _ [] s h
  cases hh

noncomputable def en_X12_feed  : En := fun _ av s k => match av with
  | [.ref r0, .int a0] => (gd (Nat.beq r0 74) (bI (f_X12_feed a0 s) k))
  | _ => none
set_option maxRecDepth 100000 in
set_option maxHeartbeats 4000000 in
theorem en_X12_feed_ok {l : Launch} {G : Gm} (D : Nat) (hD : 2 ≤ D) : enOK l G D 165 en_X12_feed := by
  intro ρ av x k r h
  unfold en_X12_feed at h
  split at h
  · obtain ⟨g0, h⟩ := gd_some h
    obtain ⟨q, h1, h2⟩ := bind_of h
    have e0 := beq1 g0
    subst e0
    obtain ⟨D', rfl⟩ : ∃ D', D = D' + 1 := ⟨D - 1, by omega⟩
    exact ⟨_, _, h2, run_X12_feed  _ _ _ h1 D' (by omega)⟩
  · cases h

/-! HatRankModel look -/
noncomputable def tb_X12_look (cal : Cal SS) : List (Nat × Ins SS) := [(0, e_aload 0 1), (1, e_getI opsS 12 24 4), (4, e_aload 0 5), (5, e_getI opsS 12 23 8), (8, e_cge 23 11), (11, e_aload 0 12), (12, e_getR opsS 12 22 15), (15, e_aload 0 16), (16, e_getI opsS 12 24 19), (19, e_ald opsS 102 20), (20, e_goto 24), (23, e_iconst (-1) 24), (24, e_iret)]
set_option maxRecDepth 100000 in
set_option maxHeartbeats 4000000 in
theorem tk_X12_look {ad0 : Nat → Nat} {G : Gm} {A : Nat → Prop} {p : Program} {l : Launch} {e : Env} {R : Room} {s0 : State} {m : MethodId} {args : Array Value} {below : List Frame} {meth : Method} {c : Code} {Q : State → Prop} {ρ : Type} {ret : Option Value → SS → Option ρ} {r : ρ} (X : Cx G A RX12 cX12_look 1 p s0 m args c) {D' : Nat} {cal : Cal SS} (hcal : calOK l G opsS D' cal) (hRm : ∀ k, k ≤ 21 → D' + 1 ≤ R.frames ∧ 8 + (k + 11) + 40 * D' ≤ R.locals) (hret : RetK G A cX12_look 113 6344 ad0 p l e R s0 m args below meth c Q opsS ret r .ireturn okI) : ∀ q ∈ tb_X12_look cal, OKi G A 1 113 6344 ad0 p l e R s0 m args below meth c Q opsS ret r q.1 q.2 :=
    okc (ok_aload_n (j := 0) X (by decide +kernel) rfl rfl) (
    okc (ok_getI (ci := 12) (kf := 24) (idx := 187) (C := RX12) (T := TX12) (N := 63) X rfl (by decide) inX12 (by decide) wf_X12_187 (fun _ _ _ => rfl) (by decide +kernel) rfl) (
    okc (ok_aload_n (j := 0) X (by decide +kernel) rfl rfl) (
    okc (ok_getI (ci := 12) (kf := 23) (idx := 184) (C := RX12) (T := TX12) (N := 63) X rfl (by decide) inX12 (by decide) wf_X12_184 (fun _ _ _ => rfl) (by decide +kernel) rfl) (
    okc (ok_cge (off := 15) X (by decide +kernel) (by decide) rfl) (
    okc (ok_aload_n (j := 0) X (by decide +kernel) rfl rfl) (
    okc (ok_getR (ci := 12) (kf := 22) (idx := 52) (C := RX12) (T := TX12) (N := 63) X rfl (by decide) inX12 (by decide) wf_X12_52 (fun _ _ _ => rfl) (by decide +kernel) rfl) (
    okc (ok_aload_n (j := 0) X (by decide +kernel) rfl rfl) (
    okc (ok_getI (ci := 12) (kf := 24) (idx := 187) (C := RX12) (T := TX12) (N := 63) X rfl (by decide) inX12 (by decide) wf_X12_187 (fun _ _ _ => rfl) (by decide +kernel) rfl) (
    okc (ok_bald X (by decide +kernel) rfl) (
    okc (ok_goto (off := 4) X (by decide +kernel) (by decide)) (
    okc (ok_iconst (n := -1) X (by decide +kernel) rfl rfl) (
    okc (ok_iret hret (by decide +kernel)) (
    okn)))))))))))))
noncomputable def es_X12_look  : List (Nat × En) := []
set_option maxRecDepth 100000 in
set_option maxHeartbeats 4000000 in
theorem eq_X12_look    (s : SS) : ex (tb_X12_look (calE (es_X12_look))) rI [] (fun _ _ _ _ => none) 15 0 [some (.ref 74)] [] s = f_X12_look  s := by
  rfl
set_option maxRecDepth 100000 in
set_option maxHeartbeats 4000000 in
theorem run_X12_look {l : Launch} {G : Gm}    (s : SS) (q : (Int32 × SS)) (h : f_X12_look  s = some q) (D' : Nat) (hD : 0 ≤ D') : RunsM l G (D' + 1) (md 166) (embS s) [.ref 74] (some (.int q.1)) (embS q.2) := by
  rw [md_X12_look]
  refine runs_I (plainFor_of_name (by decide +kernel)) (Nat.le_of_ble_eq_true rfl) rfl ?_
  intro A p e R s0 m args below meth c Q ad0 hR X hret
  have X : Cx G A RX12 cX12_look 1 p s0 m args c := X
  have hT := tk_X12_look X (calE_ok (es := es_X12_look) (enn)) (rmD rfl hR) hret
  rw [← eq_X12_look    s] at h
  refine ex_good hT (fun pc' ls' st' x' hh => ?_) 15 0 _ [] s h
  cases hh

noncomputable def en_X12_look  : En := fun _ av s k => match av with
  | [.ref r0] => (gd (Nat.beq r0 74) (bI (f_X12_look  s) k))
  | _ => none
set_option maxRecDepth 100000 in
set_option maxHeartbeats 4000000 in
theorem en_X12_look_ok {l : Launch} {G : Gm} (D : Nat) (hD : 1 ≤ D) : enOK l G D 166 en_X12_look := by
  intro ρ av x k r h
  unfold en_X12_look at h
  split at h
  · obtain ⟨g0, h⟩ := gd_some h
    obtain ⟨q, h1, h2⟩ := bind_of h
    have e0 := beq1 g0
    subst e0
    obtain ⟨D', rfl⟩ : ∃ D', D = D' + 1 := ⟨D - 1, by omega⟩
    exact ⟨_, _, h2, run_X12_look   _ _ h1 D' (by omega)⟩
  · cases h

/-! HatRankModel faulty -/
noncomputable def tb_X12_faulty (cal : Cal SS) : List (Nat × Ins SS) := [(0, e_aload 0 1), (1, e_getI opsS 12 25 4), (4, e_ifge 15 7), (7, e_aload 0 8), (8, e_aload 0 9), (9, e_getI opsS 12 24 12), (12, e_putI opsS 12 25 15), (15, e_vret)]
set_option maxRecDepth 100000 in
set_option maxHeartbeats 4000000 in
theorem tk_X12_faulty {ad0 : Nat → Nat} {G : Gm} {A : Nat → Prop} {p : Program} {l : Launch} {e : Env} {R : Room} {s0 : State} {m : MethodId} {args : Array Value} {below : List Frame} {meth : Method} {c : Code} {Q : State → Prop} {ρ : Type} {ret : Option Value → SS → Option ρ} {r : ρ} (X : Cx G A RX12 cX12_faulty 1 p s0 m args c) {D' : Nat} {cal : Cal SS} (hcal : calOK l G opsS D' cal) (hRm : ∀ k, k ≤ 21 → D' + 1 ≤ R.frames ∧ 8 + (k + 11) + 40 * D' ≤ R.locals) (hret : RetK G A cX12_faulty 113 6344 ad0 p l e R s0 m args below meth c Q opsS ret r .return_ okV) : ∀ q ∈ tb_X12_faulty cal, OKi G A 1 113 6344 ad0 p l e R s0 m args below meth c Q opsS ret r q.1 q.2 :=
    okc (ok_aload_n (j := 0) X (by decide +kernel) rfl rfl) (
    okc (ok_getI (ci := 12) (kf := 25) (idx := 190) (C := RX12) (T := TX12) (N := 63) X rfl (by decide) inX12 (by decide) wf_X12_190 (fun _ _ _ => rfl) (by decide +kernel) rfl) (
    okc (ok_ifge (off := 11) X (by decide +kernel) (by decide) rfl) (
    okc (ok_aload_n (j := 0) X (by decide +kernel) rfl rfl) (
    okc (ok_aload_n (j := 0) X (by decide +kernel) rfl rfl) (
    okc (ok_getI (ci := 12) (kf := 24) (idx := 187) (C := RX12) (T := TX12) (N := 63) X rfl (by decide) inX12 (by decide) wf_X12_187 (fun _ _ _ => rfl) (by decide +kernel) rfl) (
    okc (ok_putI (ci := 12) (kf := 25) (idx := 190) (C := RX12) (T := TX12) (N := 63) X opsS_ok rfl (by decide) inX12 tyX12_ok nmX12 (by decide) wf_X12_190 rfl (fun _ _ _ => rfl) (by decide +kernel) (by decide +kernel) rfl) (
    okc (ok_vret hret (by decide +kernel)) (
    okn))))))))
noncomputable def es_X12_faulty  : List (Nat × En) := []
set_option maxRecDepth 100000 in
set_option maxHeartbeats 4000000 in
theorem eq_X12_faulty    (s : SS) : ex (tb_X12_faulty (calE (es_X12_faulty))) rV [] (fun _ _ _ _ => none) 10 0 [some (.ref 74)] [] s = f_X12_faulty  s := by
  rfl
set_option maxRecDepth 100000 in
set_option maxHeartbeats 4000000 in
theorem run_X12_faulty {l : Launch} {G : Gm}    (s : SS) (q : SS) (h : f_X12_faulty  s = some q) (D' : Nat) (hD : 0 ≤ D') : RunsM l G (D' + 1) (md 167) (embS s) [.ref 74] none (embS q) := by
  rw [md_X12_faulty]
  refine runs_V (plainFor_of_name (by decide +kernel)) (Nat.le_of_ble_eq_true rfl) rfl ?_
  intro A p e R s0 m args below meth c Q ad0 hR X hret
  have X : Cx G A RX12 cX12_faulty 1 p s0 m args c := X
  have hT := tk_X12_faulty X (calE_ok (es := es_X12_faulty) (enn)) (rmD rfl hR) hret
  rw [← eq_X12_faulty    s] at h
  refine ex_good hT (fun pc' ls' st' x' hh => ?_) 10 0 _ [] s h
  cases hh

noncomputable def en_X12_faulty  : En := fun _ av s k => match av with
  | [.ref r0] => (gd (Nat.beq r0 74) (bV (f_X12_faulty  s) k))
  | _ => none
set_option maxRecDepth 100000 in
set_option maxHeartbeats 4000000 in
theorem en_X12_faulty_ok {l : Launch} {G : Gm} (D : Nat) (hD : 1 ≤ D) : enOK l G D 167 en_X12_faulty := by
  intro ρ av x k r h
  unfold en_X12_faulty at h
  split at h
  · obtain ⟨g0, h⟩ := gd_some h
    obtain ⟨q, h1, h2⟩ := bind_of h
    have e0 := beq1 g0
    subst e0
    obtain ⟨D', rfl⟩ : ∃ D', D = D' + 1 := ⟨D - 1, by omega⟩
    exact ⟨_, _, h2, run_X12_faulty   _ _ h1 D' (by omega)⟩
  · cases h

/-! HatRankModel addStep -/
noncomputable def tb_X12_addStep (cal : Cal SS) : List (Nat × Ins SS) := [(0, e_aload 0 1), (1, e_getR opsS 12 28 4), (4, e_iconst (130) 7), (7, e_aload 0 8), (8, e_getI opsS 12 27 11), (11, e_bin aAdd 12), (12, e_iload 1 13), (13, e_un aB 14), (14, e_ast opsS 102 aB 15), (15, e_aload 0 16), (16, e_getR opsS 12 29 19), (19, e_iconst (130) 22), (22, e_aload 0 23), (23, e_getI opsS 12 27 26), (26, e_bin aAdd 27), (27, e_iload 2 28), (28, e_ast opsS 100 (fun v => v) 29), (29, e_aload 0 30), (30, e_dup 31), (31, e_getI opsS 12 27 34), (34, e_iconst (1) 35), (35, e_bin aAdd 36), (36, e_putI opsS 12 27 39), (39, e_vret)]
set_option maxRecDepth 100000 in
set_option maxHeartbeats 4000000 in
theorem tk_X12_addStep {ad0 : Nat → Nat} {G : Gm} {A : Nat → Prop} {p : Program} {l : Launch} {e : Env} {R : Room} {s0 : State} {m : MethodId} {args : Array Value} {below : List Frame} {meth : Method} {c : Code} {Q : State → Prop} {ρ : Type} {ret : Option Value → SS → Option ρ} {r : ρ} (X : Cx G A RX12 cX12_addStep 3 p s0 m args c) {D' : Nat} {cal : Cal SS} (hcal : calOK l G opsS D' cal) (hRm : ∀ k, k ≤ 21 → D' + 1 ≤ R.frames ∧ 8 + (k + 11) + 40 * D' ≤ R.locals) (hret : RetK G A cX12_addStep 113 6344 ad0 p l e R s0 m args below meth c Q opsS ret r .return_ okV) : ∀ q ∈ tb_X12_addStep cal, OKi G A 3 113 6344 ad0 p l e R s0 m args below meth c Q opsS ret r q.1 q.2 :=
    okc (ok_aload_n (j := 0) X (by decide +kernel) rfl rfl) (
    okc (ok_getR (ci := 12) (kf := 28) (idx := 56) (C := RX12) (T := TX12) (N := 63) X rfl (by decide) inX12 (by decide) wf_X12_56 (fun _ _ _ => rfl) (by decide +kernel) rfl) (
    okc (ok_sipush (n := 130) X (by decide +kernel) rfl rfl) (
    okc (ok_aload_n (j := 0) X (by decide +kernel) rfl rfl) (
    okc (ok_getI (ci := 12) (kf := 27) (idx := 193) (C := RX12) (T := TX12) (N := 63) X rfl (by decide) inX12 (by decide) wf_X12_193 (fun _ _ _ => rfl) (by decide +kernel) rfl) (
    okc (ok_iadd X (by decide +kernel) rfl) (
    okc (ok_iload_n (j := 1) X (by decide +kernel) rfl rfl) (
    okc (ok_i2b X (by decide +kernel) rfl) (
    okc (ok_bast X opsS_ok (by decide +kernel) rfl) (
    okc (ok_aload_n (j := 0) X (by decide +kernel) rfl rfl) (
    okc (ok_getR (ci := 12) (kf := 29) (idx := 59) (C := RX12) (T := TX12) (N := 63) X rfl (by decide) inX12 (by decide) wf_X12_59 (fun _ _ _ => rfl) (by decide +kernel) rfl) (
    okc (ok_sipush (n := 130) X (by decide +kernel) rfl rfl) (
    okc (ok_aload_n (j := 0) X (by decide +kernel) rfl rfl) (
    okc (ok_getI (ci := 12) (kf := 27) (idx := 193) (C := RX12) (T := TX12) (N := 63) X rfl (by decide) inX12 (by decide) wf_X12_193 (fun _ _ _ => rfl) (by decide +kernel) rfl) (
    okc (ok_iadd X (by decide +kernel) rfl) (
    okc (ok_iload_n (j := 2) X (by decide +kernel) rfl rfl) (
    okc (ok_iast X opsS_ok (by decide +kernel) rfl) (
    okc (ok_aload_n (j := 0) X (by decide +kernel) rfl rfl) (
    okc (ok_dup X (by decide +kernel) rfl) (
    okc (ok_getI (ci := 12) (kf := 27) (idx := 193) (C := RX12) (T := TX12) (N := 63) X rfl (by decide) inX12 (by decide) wf_X12_193 (fun _ _ _ => rfl) (by decide +kernel) rfl) (
    okc (ok_iconst (n := 1) X (by decide +kernel) rfl rfl) (
    okc (ok_iadd X (by decide +kernel) rfl) (
    okc (ok_putI (ci := 12) (kf := 27) (idx := 193) (C := RX12) (T := TX12) (N := 63) X opsS_ok rfl (by decide) inX12 tyX12_ok nmX12 (by decide) wf_X12_193 rfl (fun _ _ _ => rfl) (by decide +kernel) (by decide +kernel) rfl) (
    okc (ok_vret hret (by decide +kernel)) (
    okn))))))))))))))))))))))))
noncomputable def es_X12_addStep  : List (Nat × En) := []
set_option maxRecDepth 100000 in
set_option maxHeartbeats 4000000 in
theorem eq_X12_addStep   (a0 : Int32) (a1 : Int32) (s : SS) : ex (tb_X12_addStep (calE (es_X12_addStep))) rV [] (fun _ _ _ _ => none) 26 0 [some (.ref 74), some (.int a0), some (.int a1)] [] s = f_X12_addStep a0 a1 s := by
  rfl
set_option maxRecDepth 100000 in
set_option maxHeartbeats 4000000 in
theorem run_X12_addStep {l : Launch} {G : Gm}   (a0 : Int32) (a1 : Int32) (s : SS) (q : SS) (h : f_X12_addStep a0 a1 s = some q) (D' : Nat) (hD : 0 ≤ D') : RunsM l G (D' + 1) (md 168) (embS s) [.ref 74, .int a0, .int a1] none (embS q) := by
  rw [md_X12_addStep]
  refine runs_V (plainFor_of_name (by decide +kernel)) (Nat.le_of_ble_eq_true rfl) rfl ?_
  intro A p e R s0 m args below meth c Q ad0 hR X hret
  have X : Cx G A RX12 cX12_addStep 3 p s0 m args c := X
  have hT := tk_X12_addStep X (calE_ok (es := es_X12_addStep) (enn)) (rmD rfl hR) hret
  rw [← eq_X12_addStep   a0 a1 s] at h
  refine ex_good hT (fun pc' ls' st' x' hh => ?_) 26 0 _ [] s h
  cases hh

noncomputable def en_X12_addStep  : En := fun _ av s k => match av with
  | [.ref r0, .int a0, .int a1] => (gd (Nat.beq r0 74) (bV (f_X12_addStep a0 a1 s) k))
  | _ => none
set_option maxRecDepth 100000 in
set_option maxHeartbeats 4000000 in
theorem en_X12_addStep_ok {l : Launch} {G : Gm} (D : Nat) (hD : 1 ≤ D) : enOK l G D 168 en_X12_addStep := by
  intro ρ av x k r h
  unfold en_X12_addStep at h
  split at h
  · obtain ⟨g0, h⟩ := gd_some h
    obtain ⟨q, h1, h2⟩ := bind_of h
    have e0 := beq1 g0
    subst e0
    obtain ⟨D', rfl⟩ : ∃ D', D = D' + 1 := ⟨D - 1, by omega⟩
    exact ⟨_, _, h2, run_X12_addStep  _ _ _ _ h1 D' (by omega)⟩
  · cases h

/-! HatRankModel nameOf -/
noncomputable def tb_X12_nameOf (cal : Cal SS) : List (Nat × Ins SS) := [(0, e_iload 0 1), (1, e_sw [(98, 80), (99, 88), (100, 88), (101, 88), (102, 88), (103, 76), (104, 82), (105, 88), (106, 88), (107, 88), (108, 88), (109, 88), (110, 78), (111, 86), (112, 84)] 88), (76, e_iconst (0) 77), (77, e_iret), (78, e_iconst (1) 79), (79, e_iret), (80, e_iconst (2) 81), (81, e_iret), (82, e_iconst (3) 83), (83, e_iret), (84, e_iconst (4) 85), (85, e_iret), (86, e_iconst (5) 87), (87, e_iret), (88, e_iconst (-1) 89), (89, e_iret)]
set_option maxRecDepth 100000 in
set_option maxHeartbeats 4000000 in
theorem tk_X12_nameOf {ad0 : Nat → Nat} {G : Gm} {A : Nat → Prop} {p : Program} {l : Launch} {e : Env} {R : Room} {s0 : State} {m : MethodId} {args : Array Value} {below : List Frame} {meth : Method} {c : Code} {Q : State → Prop} {ρ : Type} {ret : Option Value → SS → Option ρ} {r : ρ} (X : Cx G A RX12 cX12_nameOf 1 p s0 m args c) {D' : Nat} {cal : Cal SS} (hcal : calOK l G opsS D' cal) (hRm : ∀ k, k ≤ 21 → D' + 1 ≤ R.frames ∧ 8 + (k + 11) + 40 * D' ≤ R.locals) (hret : RetK G A cX12_nameOf 113 6344 ad0 p l e R s0 m args below meth c Q opsS ret r .ireturn okI) : ∀ q ∈ tb_X12_nameOf cal, OKi G A 1 113 6344 ad0 p l e R s0 m args below meth c Q opsS ret r q.1 q.2 :=
    okc (ok_iload_n (j := 0) X (by decide +kernel) rfl rfl) (
    okc (ok_tsw (dflt := 87) (lo := 98) (hi := 112) (offs := #[79, 87, 87, 87, 87, 75, 81, 87, 87, 87, 87, 87, 77, 85, 83]) (len := 75) X (by decide +kernel) (tsw_out 1 87 98 112 #[79, 87, 87, 87, 87, 75, 81, 87, 87, 87, 87, 87, 77, 85, 83] (by decide +kernel)) (tsw_in 1 87 98 112 #[79, 87, 87, 87, 87, 75, 81, 87, 87, 87, 87, 87, 77, 85, 83] (by decide +kernel))) (
    okc (ok_iconst (n := 0) X (by decide +kernel) rfl rfl) (
    okc (ok_iret hret (by decide +kernel)) (
    okc (ok_iconst (n := 1) X (by decide +kernel) rfl rfl) (
    okc (ok_iret hret (by decide +kernel)) (
    okc (ok_iconst (n := 2) X (by decide +kernel) rfl rfl) (
    okc (ok_iret hret (by decide +kernel)) (
    okc (ok_iconst (n := 3) X (by decide +kernel) rfl rfl) (
    okc (ok_iret hret (by decide +kernel)) (
    okc (ok_iconst (n := 4) X (by decide +kernel) rfl rfl) (
    okc (ok_iret hret (by decide +kernel)) (
    okc (ok_iconst (n := 5) X (by decide +kernel) rfl rfl) (
    okc (ok_iret hret (by decide +kernel)) (
    okc (ok_iconst (n := -1) X (by decide +kernel) rfl rfl) (
    okc (ok_iret hret (by decide +kernel)) (
    okn))))))))))))))))
noncomputable def es_X12_nameOf  : List (Nat × En) := []
set_option maxRecDepth 100000 in
set_option maxHeartbeats 4000000 in
theorem eq_X12_nameOf   (a0 : Int32) (s : SS) : ex (tb_X12_nameOf (calE (es_X12_nameOf))) rI [] (fun _ _ _ _ => none) 18 0 [some (.int a0)] [] s = f_X12_nameOf a0 s := by
  rfl
set_option maxRecDepth 100000 in
set_option maxHeartbeats 4000000 in
theorem run_X12_nameOf {l : Launch} {G : Gm}   (a0 : Int32) (s : SS) (q : (Int32 × SS)) (h : f_X12_nameOf a0 s = some q) (D' : Nat) (hD : 0 ≤ D') : RunsM l G (D' + 1) (md 169) (embS s) [.int a0] (some (.int q.1)) (embS q.2) := by
  rw [md_X12_nameOf]
  refine runs_I (plainFor_of_name (by decide +kernel)) (Nat.le_of_ble_eq_true rfl) rfl ?_
  intro A p e R s0 m args below meth c Q ad0 hR X hret
  have X : Cx G A RX12 cX12_nameOf 1 p s0 m args c := X
  have hT := tk_X12_nameOf X (calE_ok (es := es_X12_nameOf) (enn)) (rmD rfl hR) hret
  rw [← eq_X12_nameOf   a0 s] at h
  refine ex_good hT (fun pc' ls' st' x' hh => ?_) 18 0 _ [] s h
  cases hh

noncomputable def en_X12_nameOf  : En := fun _ av s k => match av with
  | [.int a0] => (bI (f_X12_nameOf a0 s) k)
  | _ => none
set_option maxRecDepth 100000 in
set_option maxHeartbeats 4000000 in
theorem en_X12_nameOf_ok {l : Launch} {G : Gm} (D : Nat) (hD : 1 ≤ D) : enOK l G D 169 en_X12_nameOf := by
  intro ρ av x k r h
  unfold en_X12_nameOf at h
  split at h
  · obtain ⟨q, h1, h2⟩ := bind_of h
    obtain ⟨D', rfl⟩ : ∃ D', D = D' + 1 := ⟨D - 1, by omega⟩
    exact ⟨_, _, h2, run_X12_nameOf  _ _ _ h1 D' (by omega)⟩
  · cases h

/-! HatRankModel opens -/
noncomputable def tb_X12_opens (cal : Cal SS) : List (Nat × Ins SS) := [(0, e_aload 0 1), (1, e_getI opsS 12 26 4), (4, e_iconst (6) 6), (6, e_cne 15 9), (9, e_aload 0 10), (10, e_callV opsS cal 167 0 12 13), (13, e_iconst (0) 14), (14, e_zret), (15, e_aload 0 16), (16, e_dup 17), (17, e_getI opsS 12 26 20), (20, e_iconst (1) 21), (21, e_bin aAdd 22), (22, e_putI opsS 12 26 25), (25, e_aload 0 26), (26, e_dup 27), (27, e_getI opsS 12 24 30), (30, e_iconst (1) 31), (31, e_bin aAdd 32), (32, e_putI opsS 12 24 35), (35, e_iconst (1) 36), (36, e_zret)]
set_option maxRecDepth 100000 in
set_option maxHeartbeats 4000000 in
theorem tk_X12_opens {ad0 : Nat → Nat} {G : Gm} {A : Nat → Prop} {p : Program} {l : Launch} {e : Env} {R : Room} {s0 : State} {m : MethodId} {args : Array Value} {below : List Frame} {meth : Method} {c : Code} {Q : State → Prop} {ρ : Type} {ret : Option Value → SS → Option ρ} {r : ρ} (X : Cx G A RX12 cX12_opens 1 p s0 m args c) {D' : Nat} {cal : Cal SS} (hcal : calOK l G opsS D' cal) (hRm : ∀ k, k ≤ 21 → D' + 1 ≤ R.frames ∧ 8 + (k + 11) + 40 * D' ≤ R.locals) (hret : RetK G A cX12_opens 113 6344 ad0 p l e R s0 m args below meth c Q opsS ret r .ireturn okZ) : ∀ q ∈ tb_X12_opens cal, OKi G A 1 113 6344 ad0 p l e R s0 m args below meth c Q opsS ret r q.1 q.2 :=
    okc (ok_aload_n (j := 0) X (by decide +kernel) rfl rfl) (
    okc (ok_getI (ci := 12) (kf := 26) (idx := 196) (C := RX12) (T := TX12) (N := 63) X rfl (by decide) inX12 (by decide) wf_X12_196 (fun _ _ _ => rfl) (by decide +kernel) rfl) (
    okc (ok_bipush (n := 6) X (by decide +kernel) rfl rfl) (
    okc (ok_cne (off := 9) X (by decide +kernel) (by decide) rfl) (
    okc (ok_aload_n (j := 0) X (by decide +kernel) rfl rfl) (
    okc (ok_callV (ci := 12) (C := RX12) (T := TX12) (N := 63) (Y := (yX12_faulty, cX12_faulty, 1, none)) X hcal opsS_n md_X12_faulty rfl (by decide) rfl wc_X12_faulty wl_X12_199 wi_X12 wm_X12_faulty wv_X12_faulty (by decide +kernel) (hRm 1 (by decide)) (by decide +kernel) rfl) (
    okc (ok_iconst (n := 0) X (by decide +kernel) rfl rfl) (
    okc (ok_zret hret (by decide +kernel)) (
    okc (ok_aload_n (j := 0) X (by decide +kernel) rfl rfl) (
    okc (ok_dup X (by decide +kernel) rfl) (
    okc (ok_getI (ci := 12) (kf := 26) (idx := 196) (C := RX12) (T := TX12) (N := 63) X rfl (by decide) inX12 (by decide) wf_X12_196 (fun _ _ _ => rfl) (by decide +kernel) rfl) (
    okc (ok_iconst (n := 1) X (by decide +kernel) rfl rfl) (
    okc (ok_iadd X (by decide +kernel) rfl) (
    okc (ok_putI (ci := 12) (kf := 26) (idx := 196) (C := RX12) (T := TX12) (N := 63) X opsS_ok rfl (by decide) inX12 tyX12_ok nmX12 (by decide) wf_X12_196 rfl (fun _ _ _ => rfl) (by decide +kernel) (by decide +kernel) rfl) (
    okc (ok_aload_n (j := 0) X (by decide +kernel) rfl rfl) (
    okc (ok_dup X (by decide +kernel) rfl) (
    okc (ok_getI (ci := 12) (kf := 24) (idx := 187) (C := RX12) (T := TX12) (N := 63) X rfl (by decide) inX12 (by decide) wf_X12_187 (fun _ _ _ => rfl) (by decide +kernel) rfl) (
    okc (ok_iconst (n := 1) X (by decide +kernel) rfl rfl) (
    okc (ok_iadd X (by decide +kernel) rfl) (
    okc (ok_putI (ci := 12) (kf := 24) (idx := 187) (C := RX12) (T := TX12) (N := 63) X opsS_ok rfl (by decide) inX12 tyX12_ok nmX12 (by decide) wf_X12_187 rfl (fun _ _ _ => rfl) (by decide +kernel) (by decide +kernel) rfl) (
    okc (ok_iconst (n := 1) X (by decide +kernel) rfl rfl) (
    okc (ok_zret hret (by decide +kernel)) (
    okn))))))))))))))))))))))
noncomputable def es_X12_opens  : List (Nat × En) := [(167, en_X12_faulty)]
set_option maxRecDepth 100000 in
set_option maxHeartbeats 4000000 in
theorem eq_X12_opens    (s : SS) : ex (tb_X12_opens (calE (es_X12_opens))) rI [] (fun _ _ _ _ => none) 24 0 [some (.ref 74)] [] s = f_X12_opens  s := by
  rfl
set_option maxRecDepth 100000 in
set_option maxHeartbeats 4000000 in
theorem run_X12_opens {l : Launch} {G : Gm}    (s : SS) (q : (Int32 × SS)) (h : f_X12_opens  s = some q) (D' : Nat) (hD : 1 ≤ D') : RunsM l G (D' + 1) (md 170) (embS s) [.ref 74] (some (.int q.1)) (embS q.2) := by
  rw [md_X12_opens]
  refine runs_Z (plainFor_of_name (by decide +kernel)) (Nat.le_of_ble_eq_true rfl) rfl ?_
  intro A p e R s0 m args below meth c Q ad0 hR X hret
  have X : Cx G A RX12 cX12_opens 1 p s0 m args c := X
  have hT := tk_X12_opens X (calE_ok (es := es_X12_opens) (enc (en_X12_faulty_ok _ (by omega)) (enn))) (rmD rfl hR) hret
  rw [← eq_X12_opens    s] at h
  refine ex_good hT (fun pc' ls' st' x' hh => ?_) 24 0 _ [] s h
  cases hh

noncomputable def en_X12_opens  : En := fun _ av s k => match av with
  | [.ref r0] => (gd (Nat.beq r0 74) (bI (f_X12_opens  s) k))
  | _ => none
set_option maxRecDepth 100000 in
set_option maxHeartbeats 4000000 in
theorem en_X12_opens_ok {l : Launch} {G : Gm} (D : Nat) (hD : 2 ≤ D) : enOK l G D 170 en_X12_opens := by
  intro ρ av x k r h
  unfold en_X12_opens at h
  split at h
  · obtain ⟨g0, h⟩ := gd_some h
    obtain ⟨q, h1, h2⟩ := bind_of h
    have e0 := beq1 g0
    subst e0
    obtain ⟨D', rfl⟩ : ∃ D', D = D' + 1 := ⟨D - 1, by omega⟩
    exact ⟨_, _, h2, run_X12_opens   _ _ h1 D' (by omega)⟩
  · cases h

/-! HatRankModel figure -/
noncomputable def tb_X12_figure (cal : Cal SS) : List (Nat × Ins SS) := [(0, e_iconst (0) 1), (1, e_istore 1 2), (2, e_iconst (0) 3), (3, e_istore 2 4), (4, e_iload 2 5), (5, e_iconst (4) 6), (6, e_cge 52 9), (9, e_aload 0 10), (10, e_callV opsS cal 166 0 12 13), (13, e_iconst (48) 15), (15, e_iconst (57) 17), (17, e_callS cal 149 3 20), (20, e_ifeq 52 23), (23, e_iconst (10) 25), (25, e_iload 1 26), (26, e_bin aMul 27), (27, e_aload 0 28), (28, e_callV opsS cal 166 0 12 31), (31, e_bin aAdd 32), (32, e_iconst (48) 34), (34, e_bin aSub 35), (35, e_istore 1 36), (36, e_iinc 2 (1) 39), (39, e_aload 0 40), (40, e_dup 41), (41, e_getI opsS 12 24 44), (44, e_iconst (1) 45), (45, e_bin aAdd 46), (46, e_putI opsS 12 24 49), (49, e_goto 4), (52, e_iload 2 53), (53, e_ifeq 70 56), (56, e_aload 0 57), (57, e_callV opsS cal 166 0 12 60), (60, e_iconst (48) 62), (62, e_iconst (57) 64), (64, e_callS cal 149 3 67), (67, e_ifeq 74 70), (70, e_aload 0 71), (71, e_callV opsS cal 167 0 12 74), (74, e_aload 0 75), (75, e_iconst (1) 76), (76, e_iload 1 77), (77, e_callV opsS cal 168 2 12 80), (80, e_vret)]
set_option maxRecDepth 100000 in
set_option maxHeartbeats 4000000 in
theorem tk_X12_figure {ad0 : Nat → Nat} {G : Gm} {A : Nat → Prop} {p : Program} {l : Launch} {e : Env} {R : Room} {s0 : State} {m : MethodId} {args : Array Value} {below : List Frame} {meth : Method} {c : Code} {Q : State → Prop} {ρ : Type} {ret : Option Value → SS → Option ρ} {r : ρ} (X : Cx G A RX12 cX12_figure 3 p s0 m args c) {D' : Nat} {cal : Cal SS} (hcal : calOK l G opsS D' cal) (hRm : ∀ k, k ≤ 21 → D' + 1 ≤ R.frames ∧ 8 + (k + 11) + 40 * D' ≤ R.locals) (hret : RetK G A cX12_figure 113 6344 ad0 p l e R s0 m args below meth c Q opsS ret r .return_ okV) : ∀ q ∈ tb_X12_figure cal, OKi G A 3 113 6344 ad0 p l e R s0 m args below meth c Q opsS ret r q.1 q.2 :=
    okc (ok_iconst (n := 0) X (by decide +kernel) rfl rfl) (
    okc (ok_istore_n (j := 1) X (by decide +kernel) rfl rfl) (
    okc (ok_iconst (n := 0) X (by decide +kernel) rfl rfl) (
    okc (ok_istore_n (j := 2) X (by decide +kernel) rfl rfl) (
    okc (ok_iload_n (j := 2) X (by decide +kernel) rfl rfl) (
    okc (ok_iconst (n := 4) X (by decide +kernel) rfl rfl) (
    okc (ok_cge (off := 46) X (by decide +kernel) (by decide) rfl) (
    okc (ok_aload_n (j := 0) X (by decide +kernel) rfl rfl) (
    okc (ok_callV (ci := 12) (C := RX12) (T := TX12) (N := 63) (Y := (yX12_look, cX12_look, 1, (some .int))) X hcal opsS_n md_X12_look rfl (by decide) rfl wc_X12_look wl_X12_202 wi_X12 wm_X12_look wv_X12_look (by decide +kernel) (hRm 1 (by decide)) (by decide +kernel) rfl) (
    okc (ok_bipush (n := 48) X (by decide +kernel) rfl rfl) (
    okc (ok_bipush (n := 57) X (by decide +kernel) rfl rfl) (
    okc (ok_callS (Y := (yX12_in, cX12_in, 3, (some .boolean))) X hcal opsS_n md_X12_in wc_X12_in wl_X12_134 wi_X12 ws_X12_in (by decide +kernel) (hRm 3 (by decide)) (by decide +kernel) rfl) (
    okc (ok_ifeq (off := 32) X (by decide +kernel) (by decide) rfl) (
    okc (ok_bipush (n := 10) X (by decide +kernel) rfl rfl) (
    okc (ok_iload_n (j := 1) X (by decide +kernel) rfl rfl) (
    okc (ok_imul X (by decide +kernel) rfl) (
    okc (ok_aload_n (j := 0) X (by decide +kernel) rfl rfl) (
    okc (ok_callV (ci := 12) (C := RX12) (T := TX12) (N := 63) (Y := (yX12_look, cX12_look, 1, (some .int))) X hcal opsS_n md_X12_look rfl (by decide) rfl wc_X12_look wl_X12_202 wi_X12 wm_X12_look wv_X12_look (by decide +kernel) (hRm 1 (by decide)) (by decide +kernel) rfl) (
    okc (ok_iadd X (by decide +kernel) rfl) (
    okc (ok_bipush (n := 48) X (by decide +kernel) rfl rfl) (
    okc (ok_isub X (by decide +kernel) rfl) (
    okc (ok_istore_n (j := 1) X (by decide +kernel) rfl rfl) (
    okc (ok_iinc (n := 1) X (by decide +kernel) rfl rfl) (
    okc (ok_aload_n (j := 0) X (by decide +kernel) rfl rfl) (
    okc (ok_dup X (by decide +kernel) rfl) (
    okc (ok_getI (ci := 12) (kf := 24) (idx := 187) (C := RX12) (T := TX12) (N := 63) X rfl (by decide) inX12 (by decide) wf_X12_187 (fun _ _ _ => rfl) (by decide +kernel) rfl) (
    okc (ok_iconst (n := 1) X (by decide +kernel) rfl rfl) (
    okc (ok_iadd X (by decide +kernel) rfl) (
    okc (ok_putI (ci := 12) (kf := 24) (idx := 187) (C := RX12) (T := TX12) (N := 63) X opsS_ok rfl (by decide) inX12 tyX12_ok nmX12 (by decide) wf_X12_187 rfl (fun _ _ _ => rfl) (by decide +kernel) (by decide +kernel) rfl) (
    okc (ok_goto (off := -45) X (by decide +kernel) (by decide)) (
    okc (ok_iload_n (j := 2) X (by decide +kernel) rfl rfl) (
    okc (ok_ifeq (off := 17) X (by decide +kernel) (by decide) rfl) (
    okc (ok_aload_n (j := 0) X (by decide +kernel) rfl rfl) (
    okc (ok_callV (ci := 12) (C := RX12) (T := TX12) (N := 63) (Y := (yX12_look, cX12_look, 1, (some .int))) X hcal opsS_n md_X12_look rfl (by decide) rfl wc_X12_look wl_X12_202 wi_X12 wm_X12_look wv_X12_look (by decide +kernel) (hRm 1 (by decide)) (by decide +kernel) rfl) (
    okc (ok_bipush (n := 48) X (by decide +kernel) rfl rfl) (
    okc (ok_bipush (n := 57) X (by decide +kernel) rfl rfl) (
    okc (ok_callS (Y := (yX12_in, cX12_in, 3, (some .boolean))) X hcal opsS_n md_X12_in wc_X12_in wl_X12_134 wi_X12 ws_X12_in (by decide +kernel) (hRm 3 (by decide)) (by decide +kernel) rfl) (
    okc (ok_ifeq (off := 7) X (by decide +kernel) (by decide) rfl) (
    okc (ok_aload_n (j := 0) X (by decide +kernel) rfl rfl) (
    okc (ok_callV (ci := 12) (C := RX12) (T := TX12) (N := 63) (Y := (yX12_faulty, cX12_faulty, 1, none)) X hcal opsS_n md_X12_faulty rfl (by decide) rfl wc_X12_faulty wl_X12_199 wi_X12 wm_X12_faulty wv_X12_faulty (by decide +kernel) (hRm 1 (by decide)) (by decide +kernel) rfl) (
    okc (ok_aload_n (j := 0) X (by decide +kernel) rfl rfl) (
    okc (ok_iconst (n := 1) X (by decide +kernel) rfl rfl) (
    okc (ok_iload_n (j := 1) X (by decide +kernel) rfl rfl) (
    okc (ok_callV (ci := 12) (C := RX12) (T := TX12) (N := 63) (Y := (yX12_addStep, cX12_addStep, 3, none)) X hcal opsS_n md_X12_addStep rfl (by decide) rfl wc_X12_addStep wl_X12_206 wi_X12 wm_X12_addStep wv_X12_addStep (by decide +kernel) (hRm 3 (by decide)) (by decide +kernel) rfl) (
    okc (ok_vret hret (by decide +kernel)) (
    okn)))))))))))))))))))))))))))))))))))))))))))))
noncomputable def es_X12_figure  : List (Nat × En) := [(166, en_X12_look), (149, en_X12_in), (167, en_X12_faulty), (168, en_X12_addStep)]
noncomputable def ka_X12_figure_4   (n : Nat) : Kn SS SS := fun pc ls st s => bif Nat.beq pc 4 then (match ls, st with
    | [some y0, some (.int x1), some (.int x2)], [] => (gd (veq y0 (.ref 74)) (F_X12_figure_4 n x1 x2 s))
    | _, _ => none) else (none)
set_option maxRecDepth 100000 in
set_option maxHeartbeats 4000000 in
theorem eq_X12_figure_4    (n : Nat) (x1 : Int32) (x2 : Int32) (s : SS) : ex (tb_X12_figure (calE (es_X12_figure))) rV [4] (ka_X12_figure_4   n) 47 4 [some (.ref 74), some (.int x1), some (.int x2)] [] s = F_X12_figure_4   (n + 1) x1 x2 s := by
  rfl
set_option maxRecDepth 100000 in
set_option maxHeartbeats 4000000 in
theorem gd_X12_figure_4 {ad0 : Nat → Nat} {G : Gm} {A : Nat → Prop} {p : Program} {l : Launch} {e : Env} {R : Room} {s0 : State} {m : MethodId} {args : Array Value} {below : List Frame} {meth : Method} {c : Code} {Q : State → Prop} {r : SS}   (hT : ∀ q ∈ tb_X12_figure (calE (es_X12_figure)), OKi G A 3 113 6344 ad0 p l e R s0 m args below meth c Q opsS rV r q.1 q.2)   : ∀ (n : Nat) (x1 : Int32) (x2 : Int32) (s : SS), F_X12_figure_4   n x1 x2 s = some r → Gd G A 3 113 6344 ad0 p l e R s0 m args below meth c Q opsS 4 [some (.ref 74), some (.int x1), some (.int x2)] [] s := by
  intro n
  induction n with
  | zero =>
    intro x1 x2 s hh
    exact absurd (show (none : Option SS) = some r from hh) (by simp)
  | succ n ih =>
    intro x1 x2 s hh
    rw [← eq_X12_figure_4    n x1 x2 s] at hh
    refine ex_good hT (fun pc' ls' st' x' hh => ?_) 47 4 _ [] s hh
    unfold ka_X12_figure_4 at hh
    cases hb : Nat.beq pc' 4 with
    | true =>
      rw [hb] at hh
      have e9 := beq1 hb
      subst e9
      simp only [cond_true] at hh
      split at hh
      · obtain ⟨g0, hh1⟩ := gd_some hh
        have e0 := veq_of g0
        subst e0
        exact Gd.wk (ih _ _ _ hh1) (Lle.eq (Lle.eq (Lle.eq Lle.nil)))
      · cases hh
    | false =>
      rw [hb] at hh
      simp only [cond_false] at hh
      cases hh

noncomputable def ka_X12_figure  : Kn SS SS := fun pc ls st s => bif Nat.beq pc 4 then (match ls, st with
    | [some y0, some (.int x1), some (.int x2)], [] => (gd (veq y0 (.ref 74)) (F_X12_figure_4 fuel0 x1 x2 s))
    | _, _ => none) else (none)
set_option maxRecDepth 100000 in
set_option maxHeartbeats 4000000 in
theorem eq_X12_figure    (s : SS) : ex (tb_X12_figure (calE (es_X12_figure))) rV [4] (ka_X12_figure ) 47 0 [some (.ref 74), none, none] [] s = f_X12_figure  s := by
  rfl
set_option maxRecDepth 100000 in
set_option maxHeartbeats 4000000 in
theorem run_X12_figure {l : Launch} {G : Gm}    (s : SS) (q : SS) (h : f_X12_figure  s = some q) (D' : Nat) (hD : 1 ≤ D') : RunsM l G (D' + 1) (md 171) (embS s) [.ref 74] none (embS q) := by
  rw [md_X12_figure]
  refine runs_V (plainFor_of_name (by decide +kernel)) (Nat.le_of_ble_eq_true rfl) rfl ?_
  intro A p e R s0 m args below meth c Q ad0 hR X hret
  have X : Cx G A RX12 cX12_figure 3 p s0 m args c := X
  have hT := tk_X12_figure X (calE_ok (es := es_X12_figure) (enc (en_X12_look_ok _ (by omega)) (enc (en_X12_in_ok _ (by omega)) (enc (en_X12_faulty_ok _ (by omega)) (enc (en_X12_addStep_ok _ (by omega)) (enn)))))) (rmD rfl hR) hret
  rw [← eq_X12_figure    s] at h
  refine ex_good hT (fun pc' ls' st' x' hh => ?_) 47 0 _ [] s h
  unfold ka_X12_figure at hh
  cases hb : Nat.beq pc' 4 with
  | true =>
    rw [hb] at hh
    have e9 := beq1 hb
    subst e9
    simp only [cond_true] at hh
    split at hh
    · obtain ⟨g0, hh1⟩ := gd_some hh
      have e0 := veq_of g0
      subst e0
      exact Gd.wk (gd_X12_figure_4 hT  _ _ _ _ hh1) (Lle.eq (Lle.eq (Lle.eq Lle.nil)))
    · cases hh
  | false =>
    rw [hb] at hh
    simp only [cond_false] at hh
    cases hh

noncomputable def en_X12_figure  : En := fun _ av s k => match av with
  | [.ref r0] => (gd (Nat.beq r0 74) (bV (f_X12_figure  s) k))
  | _ => none
set_option maxRecDepth 100000 in
set_option maxHeartbeats 4000000 in
theorem en_X12_figure_ok {l : Launch} {G : Gm} (D : Nat) (hD : 2 ≤ D) : enOK l G D 171 en_X12_figure := by
  intro ρ av x k r h
  unfold en_X12_figure at h
  split at h
  · obtain ⟨g0, h⟩ := gd_some h
    obtain ⟨q, h1, h2⟩ := bind_of h
    have e0 := beq1 g0
    subst e0
    obtain ⟨D', rfl⟩ : ∃ D', D = D' + 1 := ⟨D - 1, by omega⟩
    exact ⟨_, _, h2, run_X12_figure   _ _ h1 D' (by omega)⟩
  · cases h

def rc_X12R (l : Launch) (G : Gm) (D : Nat) (rc : Nat → SS → Option SS) : Prop := (∀  (s : SS) (q : SS), rc 0  s = some q → RunsM l G D (md 172) (embS s) [.ref 74] none (embS q)) ∧ (∀  (s : SS) (q : SS), rc 1  s = some q → RunsM l G D (md 173) (embS s) [.ref 74] none (embS q)) ∧ (∀  (s : SS) (q : SS), rc 2  s = some q → RunsM l G D (md 174) (embS s) [.ref 74] none (embS q)) ∧ (∀  (s : SS) (q : SS), rc 3  s = some q → RunsM l G D (md 175) (embS s) [.ref 74] none (embS q)) ∧ (∀  (s : SS) (q : SS), rc 4  s = some q → RunsM l G D (md 176) (embS s) [.ref 74] none (embS q)) ∧ (∀  (s : SS) (q : SS), rc 5  s = some q → RunsM l G D (md 177) (embS s) [.ref 74] none (embS q))
noncomputable def en_X12_operand (rc : Nat → SS → Option SS) : En := fun _ av s k => match av with
  | [.ref r0] => (gd (Nat.beq r0 74) (bV (rc 0  s) k))
  | _ => none
set_option maxRecDepth 100000 in
set_option maxHeartbeats 4000000 in
theorem en_X12_operand_ok {l : Launch} {G : Gm} {D : Nat} {rc : Nat → SS → Option SS} (hrc : rc_X12R l G D rc) : enOK l G D 172 (en_X12_operand rc) := by
  intro ρ av x k r h
  unfold en_X12_operand at h
  split at h
  · obtain ⟨g0, h⟩ := gd_some h
    obtain ⟨q, h1, h2⟩ := bind_of h
    have e0 := beq1 g0
    subst e0
    exact ⟨_, _, h2, hrc.1  _ _ h1⟩
  · cases h

noncomputable def en_X12_product (rc : Nat → SS → Option SS) : En := fun _ av s k => match av with
  | [.ref r0] => (gd (Nat.beq r0 74) (bV (rc 1  s) k))
  | _ => none
set_option maxRecDepth 100000 in
set_option maxHeartbeats 4000000 in
theorem en_X12_product_ok {l : Launch} {G : Gm} {D : Nat} {rc : Nat → SS → Option SS} (hrc : rc_X12R l G D rc) : enOK l G D 173 (en_X12_product rc) := by
  intro ρ av x k r h
  unfold en_X12_product at h
  split at h
  · obtain ⟨g0, h⟩ := gd_some h
    obtain ⟨q, h1, h2⟩ := bind_of h
    have e0 := beq1 g0
    subst e0
    exact ⟨_, _, h2, hrc.2.1  _ _ h1⟩
  · cases h

noncomputable def en_X12_sum (rc : Nat → SS → Option SS) : En := fun _ av s k => match av with
  | [.ref r0] => (gd (Nat.beq r0 74) (bV (rc 2  s) k))
  | _ => none
set_option maxRecDepth 100000 in
set_option maxHeartbeats 4000000 in
theorem en_X12_sum_ok {l : Launch} {G : Gm} {D : Nat} {rc : Nat → SS → Option SS} (hrc : rc_X12R l G D rc) : enOK l G D 174 (en_X12_sum rc) := by
  intro ρ av x k r h
  unfold en_X12_sum at h
  split at h
  · obtain ⟨g0, h⟩ := gd_some h
    obtain ⟨q, h1, h2⟩ := bind_of h
    have e0 := beq1 g0
    subst e0
    exact ⟨_, _, h2, hrc.2.2.1  _ _ h1⟩
  · cases h

noncomputable def en_X12_compared (rc : Nat → SS → Option SS) : En := fun _ av s k => match av with
  | [.ref r0] => (gd (Nat.beq r0 74) (bV (rc 3  s) k))
  | _ => none
set_option maxRecDepth 100000 in
set_option maxHeartbeats 4000000 in
theorem en_X12_compared_ok {l : Launch} {G : Gm} {D : Nat} {rc : Nat → SS → Option SS} (hrc : rc_X12R l G D rc) : enOK l G D 175 (en_X12_compared rc) := by
  intro ρ av x k r h
  unfold en_X12_compared at h
  split at h
  · obtain ⟨g0, h⟩ := gd_some h
    obtain ⟨q, h1, h2⟩ := bind_of h
    have e0 := beq1 g0
    subst e0
    exact ⟨_, _, h2, hrc.2.2.2.1  _ _ h1⟩
  · cases h

noncomputable def en_X12_both (rc : Nat → SS → Option SS) : En := fun _ av s k => match av with
  | [.ref r0] => (gd (Nat.beq r0 74) (bV (rc 4  s) k))
  | _ => none
set_option maxRecDepth 100000 in
set_option maxHeartbeats 4000000 in
theorem en_X12_both_ok {l : Launch} {G : Gm} {D : Nat} {rc : Nat → SS → Option SS} (hrc : rc_X12R l G D rc) : enOK l G D 176 (en_X12_both rc) := by
  intro ρ av x k r h
  unfold en_X12_both at h
  split at h
  · obtain ⟨g0, h⟩ := gd_some h
    obtain ⟨q, h1, h2⟩ := bind_of h
    have e0 := beq1 g0
    subst e0
    exact ⟨_, _, h2, hrc.2.2.2.2.1  _ _ h1⟩
  · cases h

noncomputable def en_X12_either (rc : Nat → SS → Option SS) : En := fun _ av s k => match av with
  | [.ref r0] => (gd (Nat.beq r0 74) (bV (rc 5  s) k))
  | _ => none
set_option maxRecDepth 100000 in
set_option maxHeartbeats 4000000 in
theorem en_X12_either_ok {l : Launch} {G : Gm} {D : Nat} {rc : Nat → SS → Option SS} (hrc : rc_X12R l G D rc) : enOK l G D 177 (en_X12_either rc) := by
  intro ρ av x k r h
  unfold en_X12_either at h
  split at h
  · obtain ⟨g0, h⟩ := gd_some h
    obtain ⟨q, h1, h2⟩ := bind_of h
    have e0 := beq1 g0
    subst e0
    exact ⟨_, _, h2, hrc.2.2.2.2.2 _ _ h1⟩
  · cases h

/-! HatRankModel operand -/
noncomputable def tb_X12_operand (cal : Cal SS) : List (Nat × Ins SS) := [(0, e_aload 0 1), (1, e_callV opsS cal 166 0 12 4), (4, e_istore 1 5), (5, e_iload 1 6), (6, e_callS cal 169 1 9), (9, e_iflt 34 12), (12, e_aload 0 13), (13, e_iconst (2) 14), (14, e_iload 1 15), (15, e_callS cal 169 1 18), (18, e_callV opsS cal 168 2 12 21), (21, e_aload 0 22), (22, e_dup 23), (23, e_getI opsS 12 24 26), (26, e_iconst (1) 27), (27, e_bin aAdd 28), (28, e_putI opsS 12 24 31), (31, e_goto 154), (34, e_iload 1 35), (35, e_iconst (33) 37), (37, e_ceq 46 40), (40, e_iload 1 41), (41, e_iconst (45) 43), (43, e_cne 87 46), (46, e_aload 0 47), (47, e_callV opsS cal 170 0 12 50), (50, e_ifne 54 53), (53, e_vret), (54, e_aload 0 55), (55, e_callV opsS cal 172 0 12 58), (58, e_aload 0 59), (59, e_dup 60), (60, e_getI opsS 12 26 63), (63, e_iconst (1) 64), (64, e_bin aSub 65), (65, e_putI opsS 12 26 68), (68, e_aload 0 69), (69, e_iload 1 70), (70, e_iconst (33) 72), (72, e_cne 79 75), (75, e_iconst (3) 76), (76, e_goto 80), (79, e_iconst (4) 80), (80, e_iconst (0) 81), (81, e_callV opsS cal 168 2 12 84), (84, e_goto 154), (87, e_iload 1 88), (88, e_iconst (40) 90), (90, e_cne 150 93), (93, e_aload 0 94), (94, e_callV opsS cal 170 0 12 97), (97, e_ifne 101 100), (100, e_vret), (101, e_aload 0 102), (102, e_callV opsS cal 177 0 12 105), (105, e_aload 0 106), (106, e_getI opsS 12 25 109), (109, e_iflt 113 112), (112, e_vret), (113, e_aload 0 114), (114, e_callV opsS cal 166 0 12 117), (117, e_iconst (41) 119), (119, e_ceq 127 122), (122, e_aload 0 123), (123, e_callV opsS cal 167 0 12 126), (126, e_vret), (127, e_aload 0 128), (128, e_dup 129), (129, e_getI opsS 12 24 132), (132, e_iconst (1) 133), (133, e_bin aAdd 134), (134, e_putI opsS 12 24 137), (137, e_aload 0 138), (138, e_dup 139), (139, e_getI opsS 12 26 142), (142, e_iconst (1) 143), (143, e_bin aSub 144), (144, e_putI opsS 12 26 147), (147, e_goto 154), (150, e_aload 0 151), (151, e_callV opsS cal 171 0 12 154), (154, e_vret)]
set_option maxRecDepth 100000 in
set_option maxHeartbeats 4000000 in
theorem tk_X12_operand {ad0 : Nat → Nat} {G : Gm} {A : Nat → Prop} {p : Program} {l : Launch} {e : Env} {R : Room} {s0 : State} {m : MethodId} {args : Array Value} {below : List Frame} {meth : Method} {c : Code} {Q : State → Prop} {ρ : Type} {ret : Option Value → SS → Option ρ} {r : ρ} (X : Cx G A RX12 cX12_operand 2 p s0 m args c) {D' : Nat} {cal : Cal SS} (hcal : calOK l G opsS D' cal) (hRm : ∀ k, k ≤ 21 → D' + 1 ≤ R.frames ∧ 8 + (k + 11) + 40 * D' ≤ R.locals) (hret : RetK G A cX12_operand 113 6344 ad0 p l e R s0 m args below meth c Q opsS ret r .return_ okV) : ∀ q ∈ tb_X12_operand cal, OKi G A 2 113 6344 ad0 p l e R s0 m args below meth c Q opsS ret r q.1 q.2 :=
    okc (ok_aload_n (j := 0) X (by decide +kernel) rfl rfl) (
    okc (ok_callV (ci := 12) (C := RX12) (T := TX12) (N := 63) (Y := (yX12_look, cX12_look, 1, (some .int))) X hcal opsS_n md_X12_look rfl (by decide) rfl wc_X12_look wl_X12_202 wi_X12 wm_X12_look wv_X12_look (by decide +kernel) (hRm 1 (by decide)) (by decide +kernel) rfl) (
    okc (ok_istore_n (j := 1) X (by decide +kernel) rfl rfl) (
    okc (ok_iload_n (j := 1) X (by decide +kernel) rfl rfl) (
    okc (ok_callS (Y := (yX12_nameOf, cX12_nameOf, 1, (some .int))) X hcal opsS_n md_X12_nameOf wc_X12_nameOf wl_X12_210 wi_X12 ws_X12_nameOf (by decide +kernel) (hRm 1 (by decide)) (by decide +kernel) rfl) (
    okc (ok_iflt (off := 25) X (by decide +kernel) (by decide) rfl) (
    okc (ok_aload_n (j := 0) X (by decide +kernel) rfl rfl) (
    okc (ok_iconst (n := 2) X (by decide +kernel) rfl rfl) (
    okc (ok_iload_n (j := 1) X (by decide +kernel) rfl rfl) (
    okc (ok_callS (Y := (yX12_nameOf, cX12_nameOf, 1, (some .int))) X hcal opsS_n md_X12_nameOf wc_X12_nameOf wl_X12_210 wi_X12 ws_X12_nameOf (by decide +kernel) (hRm 1 (by decide)) (by decide +kernel) rfl) (
    okc (ok_callV (ci := 12) (C := RX12) (T := TX12) (N := 63) (Y := (yX12_addStep, cX12_addStep, 3, none)) X hcal opsS_n md_X12_addStep rfl (by decide) rfl wc_X12_addStep wl_X12_206 wi_X12 wm_X12_addStep wv_X12_addStep (by decide +kernel) (hRm 3 (by decide)) (by decide +kernel) rfl) (
    okc (ok_aload_n (j := 0) X (by decide +kernel) rfl rfl) (
    okc (ok_dup X (by decide +kernel) rfl) (
    okc (ok_getI (ci := 12) (kf := 24) (idx := 187) (C := RX12) (T := TX12) (N := 63) X rfl (by decide) inX12 (by decide) wf_X12_187 (fun _ _ _ => rfl) (by decide +kernel) rfl) (
    okc (ok_iconst (n := 1) X (by decide +kernel) rfl rfl) (
    okc (ok_iadd X (by decide +kernel) rfl) (
    okc (ok_putI (ci := 12) (kf := 24) (idx := 187) (C := RX12) (T := TX12) (N := 63) X opsS_ok rfl (by decide) inX12 tyX12_ok nmX12 (by decide) wf_X12_187 rfl (fun _ _ _ => rfl) (by decide +kernel) (by decide +kernel) rfl) (
    okc (ok_goto (off := 123) X (by decide +kernel) (by decide)) (
    okc (ok_iload_n (j := 1) X (by decide +kernel) rfl rfl) (
    okc (ok_bipush (n := 33) X (by decide +kernel) rfl rfl) (
    okc (ok_ceq (off := 9) X (by decide +kernel) (by decide) rfl) (
    okc (ok_iload_n (j := 1) X (by decide +kernel) rfl rfl) (
    okc (ok_bipush (n := 45) X (by decide +kernel) rfl rfl) (
    okc (ok_cne (off := 44) X (by decide +kernel) (by decide) rfl) (
    okc (ok_aload_n (j := 0) X (by decide +kernel) rfl rfl) (
    okc (ok_callV (ci := 12) (C := RX12) (T := TX12) (N := 63) (Y := (yX12_opens, cX12_opens, 1, (some .boolean))) X hcal opsS_n md_X12_opens rfl (by decide) rfl wc_X12_opens wl_X12_214 wi_X12 wm_X12_opens wv_X12_opens (by decide +kernel) (hRm 1 (by decide)) (by decide +kernel) rfl) (
    okc (ok_ifne (off := 4) X (by decide +kernel) (by decide) rfl) (
    okc (ok_vret hret (by decide +kernel)) (
    okc (ok_aload_n (j := 0) X (by decide +kernel) rfl rfl) (
    okc (ok_callV (ci := 12) (C := RX12) (T := TX12) (N := 63) (Y := (yX12_operand, cX12_operand, 2, none)) X hcal opsS_n md_X12_operand rfl (by decide) rfl wc_X12_operand wl_X12_218 wi_X12 wm_X12_operand wv_X12_operand (by decide +kernel) (hRm 2 (by decide)) (by decide +kernel) rfl) (
    okc (ok_aload_n (j := 0) X (by decide +kernel) rfl rfl) (
    okc (ok_dup X (by decide +kernel) rfl) (
    okc (ok_getI (ci := 12) (kf := 26) (idx := 196) (C := RX12) (T := TX12) (N := 63) X rfl (by decide) inX12 (by decide) wf_X12_196 (fun _ _ _ => rfl) (by decide +kernel) rfl) (
    okc (ok_iconst (n := 1) X (by decide +kernel) rfl rfl) (
    okc (ok_isub X (by decide +kernel) rfl) (
    okc (ok_putI (ci := 12) (kf := 26) (idx := 196) (C := RX12) (T := TX12) (N := 63) X opsS_ok rfl (by decide) inX12 tyX12_ok nmX12 (by decide) wf_X12_196 rfl (fun _ _ _ => rfl) (by decide +kernel) (by decide +kernel) rfl) (
    okc (ok_aload_n (j := 0) X (by decide +kernel) rfl rfl) (
    okc (ok_iload_n (j := 1) X (by decide +kernel) rfl rfl) (
    okc (ok_bipush (n := 33) X (by decide +kernel) rfl rfl) (
    okc (ok_cne (off := 7) X (by decide +kernel) (by decide) rfl) (
    okc (ok_iconst (n := 3) X (by decide +kernel) rfl rfl) (
    okc (ok_goto (off := 4) X (by decide +kernel) (by decide)) (
    okc (ok_iconst (n := 4) X (by decide +kernel) rfl rfl) (
    okc (ok_iconst (n := 0) X (by decide +kernel) rfl rfl) (
    okc (ok_callV (ci := 12) (C := RX12) (T := TX12) (N := 63) (Y := (yX12_addStep, cX12_addStep, 3, none)) X hcal opsS_n md_X12_addStep rfl (by decide) rfl wc_X12_addStep wl_X12_206 wi_X12 wm_X12_addStep wv_X12_addStep (by decide +kernel) (hRm 3 (by decide)) (by decide +kernel) rfl) (
    okc (ok_goto (off := 70) X (by decide +kernel) (by decide)) (
    okc (ok_iload_n (j := 1) X (by decide +kernel) rfl rfl) (
    okc (ok_bipush (n := 40) X (by decide +kernel) rfl rfl) (
    okc (ok_cne (off := 60) X (by decide +kernel) (by decide) rfl) (
    okc (ok_aload_n (j := 0) X (by decide +kernel) rfl rfl) (
    okc (ok_callV (ci := 12) (C := RX12) (T := TX12) (N := 63) (Y := (yX12_opens, cX12_opens, 1, (some .boolean))) X hcal opsS_n md_X12_opens rfl (by decide) rfl wc_X12_opens wl_X12_214 wi_X12 wm_X12_opens wv_X12_opens (by decide +kernel) (hRm 1 (by decide)) (by decide +kernel) rfl) (
    okc (ok_ifne (off := 4) X (by decide +kernel) (by decide) rfl) (
    okc (ok_vret hret (by decide +kernel)) (
    okc (ok_aload_n (j := 0) X (by decide +kernel) rfl rfl) (
    okc (ok_callV (ci := 12) (C := RX12) (T := TX12) (N := 63) (Y := (yX12_either, cX12_either, 1, none)) X hcal opsS_n md_X12_either rfl (by decide) rfl wc_X12_either wl_X12_221 wi_X12 wm_X12_either wv_X12_either (by decide +kernel) (hRm 1 (by decide)) (by decide +kernel) rfl) (
    okc (ok_aload_n (j := 0) X (by decide +kernel) rfl rfl) (
    okc (ok_getI (ci := 12) (kf := 25) (idx := 190) (C := RX12) (T := TX12) (N := 63) X rfl (by decide) inX12 (by decide) wf_X12_190 (fun _ _ _ => rfl) (by decide +kernel) rfl) (
    okc (ok_iflt (off := 4) X (by decide +kernel) (by decide) rfl) (
    okc (ok_vret hret (by decide +kernel)) (
    okc (ok_aload_n (j := 0) X (by decide +kernel) rfl rfl) (
    okc (ok_callV (ci := 12) (C := RX12) (T := TX12) (N := 63) (Y := (yX12_look, cX12_look, 1, (some .int))) X hcal opsS_n md_X12_look rfl (by decide) rfl wc_X12_look wl_X12_202 wi_X12 wm_X12_look wv_X12_look (by decide +kernel) (hRm 1 (by decide)) (by decide +kernel) rfl) (
    okc (ok_bipush (n := 41) X (by decide +kernel) rfl rfl) (
    okc (ok_ceq (off := 8) X (by decide +kernel) (by decide) rfl) (
    okc (ok_aload_n (j := 0) X (by decide +kernel) rfl rfl) (
    okc (ok_callV (ci := 12) (C := RX12) (T := TX12) (N := 63) (Y := (yX12_faulty, cX12_faulty, 1, none)) X hcal opsS_n md_X12_faulty rfl (by decide) rfl wc_X12_faulty wl_X12_199 wi_X12 wm_X12_faulty wv_X12_faulty (by decide +kernel) (hRm 1 (by decide)) (by decide +kernel) rfl) (
    okc (ok_vret hret (by decide +kernel)) (
    okc (ok_aload_n (j := 0) X (by decide +kernel) rfl rfl) (
    okc (ok_dup X (by decide +kernel) rfl) (
    okc (ok_getI (ci := 12) (kf := 24) (idx := 187) (C := RX12) (T := TX12) (N := 63) X rfl (by decide) inX12 (by decide) wf_X12_187 (fun _ _ _ => rfl) (by decide +kernel) rfl) (
    okc (ok_iconst (n := 1) X (by decide +kernel) rfl rfl) (
    okc (ok_iadd X (by decide +kernel) rfl) (
    okc (ok_putI (ci := 12) (kf := 24) (idx := 187) (C := RX12) (T := TX12) (N := 63) X opsS_ok rfl (by decide) inX12 tyX12_ok nmX12 (by decide) wf_X12_187 rfl (fun _ _ _ => rfl) (by decide +kernel) (by decide +kernel) rfl) (
    okc (ok_aload_n (j := 0) X (by decide +kernel) rfl rfl) (
    okc (ok_dup X (by decide +kernel) rfl) (
    okc (ok_getI (ci := 12) (kf := 26) (idx := 196) (C := RX12) (T := TX12) (N := 63) X rfl (by decide) inX12 (by decide) wf_X12_196 (fun _ _ _ => rfl) (by decide +kernel) rfl) (
    okc (ok_iconst (n := 1) X (by decide +kernel) rfl rfl) (
    okc (ok_isub X (by decide +kernel) rfl) (
    okc (ok_putI (ci := 12) (kf := 26) (idx := 196) (C := RX12) (T := TX12) (N := 63) X opsS_ok rfl (by decide) inX12 tyX12_ok nmX12 (by decide) wf_X12_196 rfl (fun _ _ _ => rfl) (by decide +kernel) (by decide +kernel) rfl) (
    okc (ok_goto (off := 7) X (by decide +kernel) (by decide)) (
    okc (ok_aload_n (j := 0) X (by decide +kernel) rfl rfl) (
    okc (ok_callV (ci := 12) (C := RX12) (T := TX12) (N := 63) (Y := (yX12_figure, cX12_figure, 3, none)) X hcal opsS_n md_X12_figure rfl (by decide) rfl wc_X12_figure wl_X12_224 wi_X12 wm_X12_figure wv_X12_figure (by decide +kernel) (hRm 3 (by decide)) (by decide +kernel) rfl) (
    okc (ok_vret hret (by decide +kernel)) (
    okn))))))))))))))))))))))))))))))))))))))))))))))))))))))))))))))))))))))))))))))))))
noncomputable def es_X12_operand (rc : Nat → SS → Option SS) : List (Nat × En) := [(166, en_X12_look), (169, en_X12_nameOf), (168, en_X12_addStep), (170, en_X12_opens), (172, en_X12_operand rc), (177, en_X12_either rc), (167, en_X12_faulty), (171, en_X12_figure)]
set_option maxRecDepth 100000 in
set_option maxHeartbeats 4000000 in
theorem eq_X12_operand (rc : Nat → SS → Option SS)   (s : SS) : ex (tb_X12_operand (calE (es_X12_operand rc))) rV [] (fun _ _ _ _ => none) 84 0 [some (.ref 74), none] [] s = f_X12_operand rc s := by
  rfl
set_option maxRecDepth 100000 in
set_option maxHeartbeats 4000000 in
theorem run_X12_operand {l : Launch} {G : Gm} {rc : Nat → SS → Option SS}   (s : SS) (q : SS) (h : f_X12_operand rc s = some q) (D' : Nat) (hD : 2 ≤ D') (hrc : rc_X12R l G D' rc) : RunsM l G (D' + 1) (md 172) (embS s) [.ref 74] none (embS q) := by
  rw [md_X12_operand]
  refine runs_V (plainFor_of_name (by decide +kernel)) (Nat.le_of_ble_eq_true rfl) rfl ?_
  intro A p e R s0 m args below meth c Q ad0 hR X hret
  have X : Cx G A RX12 cX12_operand 2 p s0 m args c := X
  have hT := tk_X12_operand X (calE_ok (es := es_X12_operand rc) (enc (en_X12_look_ok _ (by omega)) (enc (en_X12_nameOf_ok _ (by omega)) (enc (en_X12_addStep_ok _ (by omega)) (enc (en_X12_opens_ok _ (by omega)) (enc (en_X12_operand_ok hrc) (enc (en_X12_either_ok hrc) (enc (en_X12_faulty_ok _ (by omega)) (enc (en_X12_figure_ok _ (by omega)) (enn)))))))))) (rmD rfl hR) hret
  rw [← eq_X12_operand rc   s] at h
  refine ex_good hT (fun pc' ls' st' x' hh => ?_) 84 0 _ [] s h
  cases hh


/-! HatRankModel product -/
noncomputable def tb_X12_product (cal : Cal SS) : List (Nat × Ins SS) := [(0, e_aload 0 1), (1, e_callV opsS cal 172 0 12 4), (4, e_aload 0 5), (5, e_getI opsS 12 25 8), (8, e_ifge 66 11), (11, e_aload 0 12), (12, e_callV opsS cal 166 0 12 15), (15, e_iconst (42) 17), (17, e_ceq 38 20), (20, e_aload 0 21), (21, e_callV opsS cal 166 0 12 24), (24, e_iconst (47) 26), (26, e_ceq 38 29), (29, e_aload 0 30), (30, e_callV opsS cal 166 0 12 33), (33, e_iconst (37) 35), (35, e_cne 66 38), (38, e_aload 0 39), (39, e_callV opsS cal 166 0 12 42), (42, e_istore 1 43), (43, e_aload 0 44), (44, e_dup 45), (45, e_getI opsS 12 24 48), (48, e_iconst (1) 49), (49, e_bin aAdd 50), (50, e_putI opsS 12 24 53), (53, e_aload 0 54), (54, e_callV opsS cal 172 0 12 57), (57, e_aload 0 58), (58, e_iload 1 59), (59, e_iconst (0) 60), (60, e_callV opsS cal 168 2 12 63), (63, e_goto 4), (66, e_vret)]
set_option maxRecDepth 100000 in
set_option maxHeartbeats 4000000 in
theorem tk_X12_product {ad0 : Nat → Nat} {G : Gm} {A : Nat → Prop} {p : Program} {l : Launch} {e : Env} {R : Room} {s0 : State} {m : MethodId} {args : Array Value} {below : List Frame} {meth : Method} {c : Code} {Q : State → Prop} {ρ : Type} {ret : Option Value → SS → Option ρ} {r : ρ} (X : Cx G A RX12 cX12_product 2 p s0 m args c) {D' : Nat} {cal : Cal SS} (hcal : calOK l G opsS D' cal) (hRm : ∀ k, k ≤ 21 → D' + 1 ≤ R.frames ∧ 8 + (k + 11) + 40 * D' ≤ R.locals) (hret : RetK G A cX12_product 113 6344 ad0 p l e R s0 m args below meth c Q opsS ret r .return_ okV) : ∀ q ∈ tb_X12_product cal, OKi G A 2 113 6344 ad0 p l e R s0 m args below meth c Q opsS ret r q.1 q.2 :=
    okc (ok_aload_n (j := 0) X (by decide +kernel) rfl rfl) (
    okc (ok_callV (ci := 12) (C := RX12) (T := TX12) (N := 63) (Y := (yX12_operand, cX12_operand, 2, none)) X hcal opsS_n md_X12_operand rfl (by decide) rfl wc_X12_operand wl_X12_218 wi_X12 wm_X12_operand wv_X12_operand (by decide +kernel) (hRm 2 (by decide)) (by decide +kernel) rfl) (
    okc (ok_aload_n (j := 0) X (by decide +kernel) rfl rfl) (
    okc (ok_getI (ci := 12) (kf := 25) (idx := 190) (C := RX12) (T := TX12) (N := 63) X rfl (by decide) inX12 (by decide) wf_X12_190 (fun _ _ _ => rfl) (by decide +kernel) rfl) (
    okc (ok_ifge (off := 58) X (by decide +kernel) (by decide) rfl) (
    okc (ok_aload_n (j := 0) X (by decide +kernel) rfl rfl) (
    okc (ok_callV (ci := 12) (C := RX12) (T := TX12) (N := 63) (Y := (yX12_look, cX12_look, 1, (some .int))) X hcal opsS_n md_X12_look rfl (by decide) rfl wc_X12_look wl_X12_202 wi_X12 wm_X12_look wv_X12_look (by decide +kernel) (hRm 1 (by decide)) (by decide +kernel) rfl) (
    okc (ok_bipush (n := 42) X (by decide +kernel) rfl rfl) (
    okc (ok_ceq (off := 21) X (by decide +kernel) (by decide) rfl) (
    okc (ok_aload_n (j := 0) X (by decide +kernel) rfl rfl) (
    okc (ok_callV (ci := 12) (C := RX12) (T := TX12) (N := 63) (Y := (yX12_look, cX12_look, 1, (some .int))) X hcal opsS_n md_X12_look rfl (by decide) rfl wc_X12_look wl_X12_202 wi_X12 wm_X12_look wv_X12_look (by decide +kernel) (hRm 1 (by decide)) (by decide +kernel) rfl) (
    okc (ok_bipush (n := 47) X (by decide +kernel) rfl rfl) (
    okc (ok_ceq (off := 12) X (by decide +kernel) (by decide) rfl) (
    okc (ok_aload_n (j := 0) X (by decide +kernel) rfl rfl) (
    okc (ok_callV (ci := 12) (C := RX12) (T := TX12) (N := 63) (Y := (yX12_look, cX12_look, 1, (some .int))) X hcal opsS_n md_X12_look rfl (by decide) rfl wc_X12_look wl_X12_202 wi_X12 wm_X12_look wv_X12_look (by decide +kernel) (hRm 1 (by decide)) (by decide +kernel) rfl) (
    okc (ok_bipush (n := 37) X (by decide +kernel) rfl rfl) (
    okc (ok_cne (off := 31) X (by decide +kernel) (by decide) rfl) (
    okc (ok_aload_n (j := 0) X (by decide +kernel) rfl rfl) (
    okc (ok_callV (ci := 12) (C := RX12) (T := TX12) (N := 63) (Y := (yX12_look, cX12_look, 1, (some .int))) X hcal opsS_n md_X12_look rfl (by decide) rfl wc_X12_look wl_X12_202 wi_X12 wm_X12_look wv_X12_look (by decide +kernel) (hRm 1 (by decide)) (by decide +kernel) rfl) (
    okc (ok_istore_n (j := 1) X (by decide +kernel) rfl rfl) (
    okc (ok_aload_n (j := 0) X (by decide +kernel) rfl rfl) (
    okc (ok_dup X (by decide +kernel) rfl) (
    okc (ok_getI (ci := 12) (kf := 24) (idx := 187) (C := RX12) (T := TX12) (N := 63) X rfl (by decide) inX12 (by decide) wf_X12_187 (fun _ _ _ => rfl) (by decide +kernel) rfl) (
    okc (ok_iconst (n := 1) X (by decide +kernel) rfl rfl) (
    okc (ok_iadd X (by decide +kernel) rfl) (
    okc (ok_putI (ci := 12) (kf := 24) (idx := 187) (C := RX12) (T := TX12) (N := 63) X opsS_ok rfl (by decide) inX12 tyX12_ok nmX12 (by decide) wf_X12_187 rfl (fun _ _ _ => rfl) (by decide +kernel) (by decide +kernel) rfl) (
    okc (ok_aload_n (j := 0) X (by decide +kernel) rfl rfl) (
    okc (ok_callV (ci := 12) (C := RX12) (T := TX12) (N := 63) (Y := (yX12_operand, cX12_operand, 2, none)) X hcal opsS_n md_X12_operand rfl (by decide) rfl wc_X12_operand wl_X12_218 wi_X12 wm_X12_operand wv_X12_operand (by decide +kernel) (hRm 2 (by decide)) (by decide +kernel) rfl) (
    okc (ok_aload_n (j := 0) X (by decide +kernel) rfl rfl) (
    okc (ok_iload_n (j := 1) X (by decide +kernel) rfl rfl) (
    okc (ok_iconst (n := 0) X (by decide +kernel) rfl rfl) (
    okc (ok_callV (ci := 12) (C := RX12) (T := TX12) (N := 63) (Y := (yX12_addStep, cX12_addStep, 3, none)) X hcal opsS_n md_X12_addStep rfl (by decide) rfl wc_X12_addStep wl_X12_206 wi_X12 wm_X12_addStep wv_X12_addStep (by decide +kernel) (hRm 3 (by decide)) (by decide +kernel) rfl) (
    okc (ok_goto (off := -59) X (by decide +kernel) (by decide)) (
    okc (ok_vret hret (by decide +kernel)) (
    okn))))))))))))))))))))))))))))))))))
noncomputable def es_X12_product (rc : Nat → SS → Option SS) : List (Nat × En) := [(172, en_X12_operand rc), (166, en_X12_look), (168, en_X12_addStep)]
noncomputable def ka_X12_product_4 (rc : Nat → SS → Option SS)  (n : Nat) : Kn SS SS := fun pc ls st s => bif Nat.beq pc 4 then (match ls, st with
    | [some y0, _], [] => (gd (veq y0 (.ref 74)) (F_X12_product_4 rc n s))
    | _, _ => none) else (none)
set_option maxRecDepth 100000 in
set_option maxHeartbeats 4000000 in
theorem eq_X12_product_4 (rc : Nat → SS → Option SS)   (n : Nat)  (s : SS) : ex (tb_X12_product (calE (es_X12_product rc))) rV [4] (ka_X12_product_4 rc  n) 36 4 [some (.ref 74), none] [] s = F_X12_product_4 rc  (n + 1)  s := by
  rfl
set_option maxRecDepth 100000 in
set_option maxHeartbeats 4000000 in
theorem gd_X12_product_4 {ad0 : Nat → Nat} {G : Gm} {A : Nat → Prop} {p : Program} {l : Launch} {e : Env} {R : Room} {s0 : State} {m : MethodId} {args : Array Value} {below : List Frame} {meth : Method} {c : Code} {Q : State → Prop} {r : SS} {rc : Nat → SS → Option SS}  (hT : ∀ q ∈ tb_X12_product (calE (es_X12_product rc)), OKi G A 2 113 6344 ad0 p l e R s0 m args below meth c Q opsS rV r q.1 q.2)   : ∀ (n : Nat)  (s : SS), F_X12_product_4 rc  n  s = some r → Gd G A 2 113 6344 ad0 p l e R s0 m args below meth c Q opsS 4 [some (.ref 74), none] [] s := by
  intro n
  induction n with
  | zero =>
    intro  s hh
    exact absurd (show (none : Option SS) = some r from hh) (by simp)
  | succ n ih =>
    intro  s hh
    rw [← eq_X12_product_4 rc   n  s] at hh
    refine ex_good hT (fun pc' ls' st' x' hh => ?_) 36 4 _ [] s hh
    unfold ka_X12_product_4 at hh
    cases hb : Nat.beq pc' 4 with
    | true =>
      rw [hb] at hh
      have e9 := beq1 hb
      subst e9
      simp only [cond_true] at hh
      split at hh
      · obtain ⟨g0, hh1⟩ := gd_some hh
        have e0 := veq_of g0
        subst e0
        exact Gd.wk (ih  _ hh1) (Lle.eq (Lle.no Lle.nil))
      · cases hh
    | false =>
      rw [hb] at hh
      simp only [cond_false] at hh
      cases hh

noncomputable def ka_X12_product (rc : Nat → SS → Option SS) : Kn SS SS := fun pc ls st s => bif Nat.beq pc 4 then (match ls, st with
    | [some y0, _], [] => (gd (veq y0 (.ref 74)) (F_X12_product_4 rc fuel0 s))
    | _, _ => none) else (none)
set_option maxRecDepth 100000 in
set_option maxHeartbeats 4000000 in
theorem eq_X12_product (rc : Nat → SS → Option SS)   (s : SS) : ex (tb_X12_product (calE (es_X12_product rc))) rV [4] (ka_X12_product rc) 36 0 [some (.ref 74), none] [] s = f_X12_product rc s := by
  rfl
set_option maxRecDepth 100000 in
set_option maxHeartbeats 4000000 in
theorem run_X12_product {l : Launch} {G : Gm} {rc : Nat → SS → Option SS}   (s : SS) (q : SS) (h : f_X12_product rc s = some q) (D' : Nat) (hD : 1 ≤ D') (hrc : rc_X12R l G D' rc) : RunsM l G (D' + 1) (md 173) (embS s) [.ref 74] none (embS q) := by
  rw [md_X12_product]
  refine runs_V (plainFor_of_name (by decide +kernel)) (Nat.le_of_ble_eq_true rfl) rfl ?_
  intro A p e R s0 m args below meth c Q ad0 hR X hret
  have X : Cx G A RX12 cX12_product 2 p s0 m args c := X
  have hT := tk_X12_product X (calE_ok (es := es_X12_product rc) (enc (en_X12_operand_ok hrc) (enc (en_X12_look_ok _ (by omega)) (enc (en_X12_addStep_ok _ (by omega)) (enn))))) (rmD rfl hR) hret
  rw [← eq_X12_product rc   s] at h
  refine ex_good hT (fun pc' ls' st' x' hh => ?_) 36 0 _ [] s h
  unfold ka_X12_product at hh
  cases hb : Nat.beq pc' 4 with
  | true =>
    rw [hb] at hh
    have e9 := beq1 hb
    subst e9
    simp only [cond_true] at hh
    split at hh
    · obtain ⟨g0, hh1⟩ := gd_some hh
      have e0 := veq_of g0
      subst e0
      exact Gd.wk (gd_X12_product_4 hT  _  _ hh1) (Lle.eq (Lle.no Lle.nil))
    · cases hh
  | false =>
    rw [hb] at hh
    simp only [cond_false] at hh
    cases hh


/-! HatRankModel sum -/
noncomputable def tb_X12_sum (cal : Cal SS) : List (Nat × Ins SS) := [(0, e_aload 0 1), (1, e_callV opsS cal 173 0 12 4), (4, e_aload 0 5), (5, e_getI opsS 12 25 8), (8, e_ifge 57 11), (11, e_aload 0 12), (12, e_callV opsS cal 166 0 12 15), (15, e_iconst (43) 17), (17, e_ceq 29 20), (20, e_aload 0 21), (21, e_callV opsS cal 166 0 12 24), (24, e_iconst (45) 26), (26, e_cne 57 29), (29, e_aload 0 30), (30, e_callV opsS cal 166 0 12 33), (33, e_istore 1 34), (34, e_aload 0 35), (35, e_dup 36), (36, e_getI opsS 12 24 39), (39, e_iconst (1) 40), (40, e_bin aAdd 41), (41, e_putI opsS 12 24 44), (44, e_aload 0 45), (45, e_callV opsS cal 173 0 12 48), (48, e_aload 0 49), (49, e_iload 1 50), (50, e_iconst (0) 51), (51, e_callV opsS cal 168 2 12 54), (54, e_goto 4), (57, e_vret)]
set_option maxRecDepth 100000 in
set_option maxHeartbeats 4000000 in
theorem tk_X12_sum {ad0 : Nat → Nat} {G : Gm} {A : Nat → Prop} {p : Program} {l : Launch} {e : Env} {R : Room} {s0 : State} {m : MethodId} {args : Array Value} {below : List Frame} {meth : Method} {c : Code} {Q : State → Prop} {ρ : Type} {ret : Option Value → SS → Option ρ} {r : ρ} (X : Cx G A RX12 cX12_sum 2 p s0 m args c) {D' : Nat} {cal : Cal SS} (hcal : calOK l G opsS D' cal) (hRm : ∀ k, k ≤ 21 → D' + 1 ≤ R.frames ∧ 8 + (k + 11) + 40 * D' ≤ R.locals) (hret : RetK G A cX12_sum 113 6344 ad0 p l e R s0 m args below meth c Q opsS ret r .return_ okV) : ∀ q ∈ tb_X12_sum cal, OKi G A 2 113 6344 ad0 p l e R s0 m args below meth c Q opsS ret r q.1 q.2 :=
    okc (ok_aload_n (j := 0) X (by decide +kernel) rfl rfl) (
    okc (ok_callV (ci := 12) (C := RX12) (T := TX12) (N := 63) (Y := (yX12_product, cX12_product, 2, none)) X hcal opsS_n md_X12_product rfl (by decide) rfl wc_X12_product wl_X12_227 wi_X12 wm_X12_product wv_X12_product (by decide +kernel) (hRm 2 (by decide)) (by decide +kernel) rfl) (
    okc (ok_aload_n (j := 0) X (by decide +kernel) rfl rfl) (
    okc (ok_getI (ci := 12) (kf := 25) (idx := 190) (C := RX12) (T := TX12) (N := 63) X rfl (by decide) inX12 (by decide) wf_X12_190 (fun _ _ _ => rfl) (by decide +kernel) rfl) (
    okc (ok_ifge (off := 49) X (by decide +kernel) (by decide) rfl) (
    okc (ok_aload_n (j := 0) X (by decide +kernel) rfl rfl) (
    okc (ok_callV (ci := 12) (C := RX12) (T := TX12) (N := 63) (Y := (yX12_look, cX12_look, 1, (some .int))) X hcal opsS_n md_X12_look rfl (by decide) rfl wc_X12_look wl_X12_202 wi_X12 wm_X12_look wv_X12_look (by decide +kernel) (hRm 1 (by decide)) (by decide +kernel) rfl) (
    okc (ok_bipush (n := 43) X (by decide +kernel) rfl rfl) (
    okc (ok_ceq (off := 12) X (by decide +kernel) (by decide) rfl) (
    okc (ok_aload_n (j := 0) X (by decide +kernel) rfl rfl) (
    okc (ok_callV (ci := 12) (C := RX12) (T := TX12) (N := 63) (Y := (yX12_look, cX12_look, 1, (some .int))) X hcal opsS_n md_X12_look rfl (by decide) rfl wc_X12_look wl_X12_202 wi_X12 wm_X12_look wv_X12_look (by decide +kernel) (hRm 1 (by decide)) (by decide +kernel) rfl) (
    okc (ok_bipush (n := 45) X (by decide +kernel) rfl rfl) (
    okc (ok_cne (off := 31) X (by decide +kernel) (by decide) rfl) (
    okc (ok_aload_n (j := 0) X (by decide +kernel) rfl rfl) (
    okc (ok_callV (ci := 12) (C := RX12) (T := TX12) (N := 63) (Y := (yX12_look, cX12_look, 1, (some .int))) X hcal opsS_n md_X12_look rfl (by decide) rfl wc_X12_look wl_X12_202 wi_X12 wm_X12_look wv_X12_look (by decide +kernel) (hRm 1 (by decide)) (by decide +kernel) rfl) (
    okc (ok_istore_n (j := 1) X (by decide +kernel) rfl rfl) (
    okc (ok_aload_n (j := 0) X (by decide +kernel) rfl rfl) (
    okc (ok_dup X (by decide +kernel) rfl) (
    okc (ok_getI (ci := 12) (kf := 24) (idx := 187) (C := RX12) (T := TX12) (N := 63) X rfl (by decide) inX12 (by decide) wf_X12_187 (fun _ _ _ => rfl) (by decide +kernel) rfl) (
    okc (ok_iconst (n := 1) X (by decide +kernel) rfl rfl) (
    okc (ok_iadd X (by decide +kernel) rfl) (
    okc (ok_putI (ci := 12) (kf := 24) (idx := 187) (C := RX12) (T := TX12) (N := 63) X opsS_ok rfl (by decide) inX12 tyX12_ok nmX12 (by decide) wf_X12_187 rfl (fun _ _ _ => rfl) (by decide +kernel) (by decide +kernel) rfl) (
    okc (ok_aload_n (j := 0) X (by decide +kernel) rfl rfl) (
    okc (ok_callV (ci := 12) (C := RX12) (T := TX12) (N := 63) (Y := (yX12_product, cX12_product, 2, none)) X hcal opsS_n md_X12_product rfl (by decide) rfl wc_X12_product wl_X12_227 wi_X12 wm_X12_product wv_X12_product (by decide +kernel) (hRm 2 (by decide)) (by decide +kernel) rfl) (
    okc (ok_aload_n (j := 0) X (by decide +kernel) rfl rfl) (
    okc (ok_iload_n (j := 1) X (by decide +kernel) rfl rfl) (
    okc (ok_iconst (n := 0) X (by decide +kernel) rfl rfl) (
    okc (ok_callV (ci := 12) (C := RX12) (T := TX12) (N := 63) (Y := (yX12_addStep, cX12_addStep, 3, none)) X hcal opsS_n md_X12_addStep rfl (by decide) rfl wc_X12_addStep wl_X12_206 wi_X12 wm_X12_addStep wv_X12_addStep (by decide +kernel) (hRm 3 (by decide)) (by decide +kernel) rfl) (
    okc (ok_goto (off := -50) X (by decide +kernel) (by decide)) (
    okc (ok_vret hret (by decide +kernel)) (
    okn))))))))))))))))))))))))))))))
noncomputable def es_X12_sum (rc : Nat → SS → Option SS) : List (Nat × En) := [(173, en_X12_product rc), (166, en_X12_look), (168, en_X12_addStep)]
noncomputable def ka_X12_sum_4 (rc : Nat → SS → Option SS)  (n : Nat) : Kn SS SS := fun pc ls st s => bif Nat.beq pc 4 then (match ls, st with
    | [some y0, _], [] => (gd (veq y0 (.ref 74)) (F_X12_sum_4 rc n s))
    | _, _ => none) else (none)
set_option maxRecDepth 100000 in
set_option maxHeartbeats 4000000 in
theorem eq_X12_sum_4 (rc : Nat → SS → Option SS)   (n : Nat)  (s : SS) : ex (tb_X12_sum (calE (es_X12_sum rc))) rV [4] (ka_X12_sum_4 rc  n) 32 4 [some (.ref 74), none] [] s = F_X12_sum_4 rc  (n + 1)  s := by
  rfl
set_option maxRecDepth 100000 in
set_option maxHeartbeats 4000000 in
theorem gd_X12_sum_4 {ad0 : Nat → Nat} {G : Gm} {A : Nat → Prop} {p : Program} {l : Launch} {e : Env} {R : Room} {s0 : State} {m : MethodId} {args : Array Value} {below : List Frame} {meth : Method} {c : Code} {Q : State → Prop} {r : SS} {rc : Nat → SS → Option SS}  (hT : ∀ q ∈ tb_X12_sum (calE (es_X12_sum rc)), OKi G A 2 113 6344 ad0 p l e R s0 m args below meth c Q opsS rV r q.1 q.2)   : ∀ (n : Nat)  (s : SS), F_X12_sum_4 rc  n  s = some r → Gd G A 2 113 6344 ad0 p l e R s0 m args below meth c Q opsS 4 [some (.ref 74), none] [] s := by
  intro n
  induction n with
  | zero =>
    intro  s hh
    exact absurd (show (none : Option SS) = some r from hh) (by simp)
  | succ n ih =>
    intro  s hh
    rw [← eq_X12_sum_4 rc   n  s] at hh
    refine ex_good hT (fun pc' ls' st' x' hh => ?_) 32 4 _ [] s hh
    unfold ka_X12_sum_4 at hh
    cases hb : Nat.beq pc' 4 with
    | true =>
      rw [hb] at hh
      have e9 := beq1 hb
      subst e9
      simp only [cond_true] at hh
      split at hh
      · obtain ⟨g0, hh1⟩ := gd_some hh
        have e0 := veq_of g0
        subst e0
        exact Gd.wk (ih  _ hh1) (Lle.eq (Lle.no Lle.nil))
      · cases hh
    | false =>
      rw [hb] at hh
      simp only [cond_false] at hh
      cases hh

noncomputable def ka_X12_sum (rc : Nat → SS → Option SS) : Kn SS SS := fun pc ls st s => bif Nat.beq pc 4 then (match ls, st with
    | [some y0, _], [] => (gd (veq y0 (.ref 74)) (F_X12_sum_4 rc fuel0 s))
    | _, _ => none) else (none)
set_option maxRecDepth 100000 in
set_option maxHeartbeats 4000000 in
theorem eq_X12_sum (rc : Nat → SS → Option SS)   (s : SS) : ex (tb_X12_sum (calE (es_X12_sum rc))) rV [4] (ka_X12_sum rc) 32 0 [some (.ref 74), none] [] s = f_X12_sum rc s := by
  rfl
set_option maxRecDepth 100000 in
set_option maxHeartbeats 4000000 in
theorem run_X12_sum {l : Launch} {G : Gm} {rc : Nat → SS → Option SS}   (s : SS) (q : SS) (h : f_X12_sum rc s = some q) (D' : Nat) (hD : 1 ≤ D') (hrc : rc_X12R l G D' rc) : RunsM l G (D' + 1) (md 174) (embS s) [.ref 74] none (embS q) := by
  rw [md_X12_sum]
  refine runs_V (plainFor_of_name (by decide +kernel)) (Nat.le_of_ble_eq_true rfl) rfl ?_
  intro A p e R s0 m args below meth c Q ad0 hR X hret
  have X : Cx G A RX12 cX12_sum 2 p s0 m args c := X
  have hT := tk_X12_sum X (calE_ok (es := es_X12_sum rc) (enc (en_X12_product_ok hrc) (enc (en_X12_look_ok _ (by omega)) (enc (en_X12_addStep_ok _ (by omega)) (enn))))) (rmD rfl hR) hret
  rw [← eq_X12_sum rc   s] at h
  refine ex_good hT (fun pc' ls' st' x' hh => ?_) 32 0 _ [] s h
  unfold ka_X12_sum at hh
  cases hb : Nat.beq pc' 4 with
  | true =>
    rw [hb] at hh
    have e9 := beq1 hb
    subst e9
    simp only [cond_true] at hh
    split at hh
    · obtain ⟨g0, hh1⟩ := gd_some hh
      have e0 := veq_of g0
      subst e0
      exact Gd.wk (gd_X12_sum_4 hT  _  _ hh1) (Lle.eq (Lle.no Lle.nil))
    · cases hh
  | false =>
    rw [hb] at hh
    simp only [cond_false] at hh
    cases hh


/-! HatRankModel compared -/
noncomputable def tb_X12_compared (cal : Cal SS) : List (Nat × Ins SS) := [(0, e_aload 0 1), (1, e_callV opsS cal 174 0 12 4), (4, e_aload 0 5), (5, e_callV opsS cal 166 0 12 8), (8, e_istore 1 9), (9, e_aload 0 10), (10, e_getI opsS 12 25 13), (13, e_ifge 34 16), (16, e_iload 1 17), (17, e_iconst (60) 19), (19, e_ceq 35 22), (22, e_iload 1 23), (23, e_iconst (61) 25), (25, e_ceq 35 28), (28, e_iload 1 29), (29, e_iconst (62) 31), (31, e_ceq 35 34), (34, e_vret), (35, e_aload 0 36), (36, e_dup 37), (37, e_getI opsS 12 24 40), (40, e_iconst (1) 41), (41, e_bin aAdd 42), (42, e_putI opsS 12 24 45), (45, e_aload 0 46), (46, e_callV opsS cal 174 0 12 49), (49, e_aload 0 50), (50, e_iload 1 51), (51, e_iconst (0) 52), (52, e_callV opsS cal 168 2 12 55), (55, e_vret)]
set_option maxRecDepth 100000 in
set_option maxHeartbeats 4000000 in
theorem tk_X12_compared {ad0 : Nat → Nat} {G : Gm} {A : Nat → Prop} {p : Program} {l : Launch} {e : Env} {R : Room} {s0 : State} {m : MethodId} {args : Array Value} {below : List Frame} {meth : Method} {c : Code} {Q : State → Prop} {ρ : Type} {ret : Option Value → SS → Option ρ} {r : ρ} (X : Cx G A RX12 cX12_compared 2 p s0 m args c) {D' : Nat} {cal : Cal SS} (hcal : calOK l G opsS D' cal) (hRm : ∀ k, k ≤ 21 → D' + 1 ≤ R.frames ∧ 8 + (k + 11) + 40 * D' ≤ R.locals) (hret : RetK G A cX12_compared 113 6344 ad0 p l e R s0 m args below meth c Q opsS ret r .return_ okV) : ∀ q ∈ tb_X12_compared cal, OKi G A 2 113 6344 ad0 p l e R s0 m args below meth c Q opsS ret r q.1 q.2 :=
    okc (ok_aload_n (j := 0) X (by decide +kernel) rfl rfl) (
    okc (ok_callV (ci := 12) (C := RX12) (T := TX12) (N := 63) (Y := (yX12_sum, cX12_sum, 2, none)) X hcal opsS_n md_X12_sum rfl (by decide) rfl wc_X12_sum wl_X12_230 wi_X12 wm_X12_sum wv_X12_sum (by decide +kernel) (hRm 2 (by decide)) (by decide +kernel) rfl) (
    okc (ok_aload_n (j := 0) X (by decide +kernel) rfl rfl) (
    okc (ok_callV (ci := 12) (C := RX12) (T := TX12) (N := 63) (Y := (yX12_look, cX12_look, 1, (some .int))) X hcal opsS_n md_X12_look rfl (by decide) rfl wc_X12_look wl_X12_202 wi_X12 wm_X12_look wv_X12_look (by decide +kernel) (hRm 1 (by decide)) (by decide +kernel) rfl) (
    okc (ok_istore_n (j := 1) X (by decide +kernel) rfl rfl) (
    okc (ok_aload_n (j := 0) X (by decide +kernel) rfl rfl) (
    okc (ok_getI (ci := 12) (kf := 25) (idx := 190) (C := RX12) (T := TX12) (N := 63) X rfl (by decide) inX12 (by decide) wf_X12_190 (fun _ _ _ => rfl) (by decide +kernel) rfl) (
    okc (ok_ifge (off := 21) X (by decide +kernel) (by decide) rfl) (
    okc (ok_iload_n (j := 1) X (by decide +kernel) rfl rfl) (
    okc (ok_bipush (n := 60) X (by decide +kernel) rfl rfl) (
    okc (ok_ceq (off := 16) X (by decide +kernel) (by decide) rfl) (
    okc (ok_iload_n (j := 1) X (by decide +kernel) rfl rfl) (
    okc (ok_bipush (n := 61) X (by decide +kernel) rfl rfl) (
    okc (ok_ceq (off := 10) X (by decide +kernel) (by decide) rfl) (
    okc (ok_iload_n (j := 1) X (by decide +kernel) rfl rfl) (
    okc (ok_bipush (n := 62) X (by decide +kernel) rfl rfl) (
    okc (ok_ceq (off := 4) X (by decide +kernel) (by decide) rfl) (
    okc (ok_vret hret (by decide +kernel)) (
    okc (ok_aload_n (j := 0) X (by decide +kernel) rfl rfl) (
    okc (ok_dup X (by decide +kernel) rfl) (
    okc (ok_getI (ci := 12) (kf := 24) (idx := 187) (C := RX12) (T := TX12) (N := 63) X rfl (by decide) inX12 (by decide) wf_X12_187 (fun _ _ _ => rfl) (by decide +kernel) rfl) (
    okc (ok_iconst (n := 1) X (by decide +kernel) rfl rfl) (
    okc (ok_iadd X (by decide +kernel) rfl) (
    okc (ok_putI (ci := 12) (kf := 24) (idx := 187) (C := RX12) (T := TX12) (N := 63) X opsS_ok rfl (by decide) inX12 tyX12_ok nmX12 (by decide) wf_X12_187 rfl (fun _ _ _ => rfl) (by decide +kernel) (by decide +kernel) rfl) (
    okc (ok_aload_n (j := 0) X (by decide +kernel) rfl rfl) (
    okc (ok_callV (ci := 12) (C := RX12) (T := TX12) (N := 63) (Y := (yX12_sum, cX12_sum, 2, none)) X hcal opsS_n md_X12_sum rfl (by decide) rfl wc_X12_sum wl_X12_230 wi_X12 wm_X12_sum wv_X12_sum (by decide +kernel) (hRm 2 (by decide)) (by decide +kernel) rfl) (
    okc (ok_aload_n (j := 0) X (by decide +kernel) rfl rfl) (
    okc (ok_iload_n (j := 1) X (by decide +kernel) rfl rfl) (
    okc (ok_iconst (n := 0) X (by decide +kernel) rfl rfl) (
    okc (ok_callV (ci := 12) (C := RX12) (T := TX12) (N := 63) (Y := (yX12_addStep, cX12_addStep, 3, none)) X hcal opsS_n md_X12_addStep rfl (by decide) rfl wc_X12_addStep wl_X12_206 wi_X12 wm_X12_addStep wv_X12_addStep (by decide +kernel) (hRm 3 (by decide)) (by decide +kernel) rfl) (
    okc (ok_vret hret (by decide +kernel)) (
    okn)))))))))))))))))))))))))))))))
noncomputable def es_X12_compared (rc : Nat → SS → Option SS) : List (Nat × En) := [(174, en_X12_sum rc), (166, en_X12_look), (168, en_X12_addStep)]
set_option maxRecDepth 100000 in
set_option maxHeartbeats 4000000 in
theorem eq_X12_compared (rc : Nat → SS → Option SS)   (s : SS) : ex (tb_X12_compared (calE (es_X12_compared rc))) rV [] (fun _ _ _ _ => none) 33 0 [some (.ref 74), none] [] s = f_X12_compared rc s := by
  rfl
set_option maxRecDepth 100000 in
set_option maxHeartbeats 4000000 in
theorem run_X12_compared {l : Launch} {G : Gm} {rc : Nat → SS → Option SS}   (s : SS) (q : SS) (h : f_X12_compared rc s = some q) (D' : Nat) (hD : 1 ≤ D') (hrc : rc_X12R l G D' rc) : RunsM l G (D' + 1) (md 175) (embS s) [.ref 74] none (embS q) := by
  rw [md_X12_compared]
  refine runs_V (plainFor_of_name (by decide +kernel)) (Nat.le_of_ble_eq_true rfl) rfl ?_
  intro A p e R s0 m args below meth c Q ad0 hR X hret
  have X : Cx G A RX12 cX12_compared 2 p s0 m args c := X
  have hT := tk_X12_compared X (calE_ok (es := es_X12_compared rc) (enc (en_X12_sum_ok hrc) (enc (en_X12_look_ok _ (by omega)) (enc (en_X12_addStep_ok _ (by omega)) (enn))))) (rmD rfl hR) hret
  rw [← eq_X12_compared rc   s] at h
  refine ex_good hT (fun pc' ls' st' x' hh => ?_) 33 0 _ [] s h
  cases hh


/-! HatRankModel both -/
noncomputable def tb_X12_both (cal : Cal SS) : List (Nat × Ins SS) := [(0, e_aload 0 1), (1, e_callV opsS cal 175 0 12 4), (4, e_aload 0 5), (5, e_getI opsS 12 25 8), (8, e_ifge 44 11), (11, e_aload 0 12), (12, e_callV opsS cal 166 0 12 15), (15, e_iconst (38) 17), (17, e_cne 44 20), (20, e_aload 0 21), (21, e_dup 22), (22, e_getI opsS 12 24 25), (25, e_iconst (1) 26), (26, e_bin aAdd 27), (27, e_putI opsS 12 24 30), (30, e_aload 0 31), (31, e_callV opsS cal 175 0 12 34), (34, e_aload 0 35), (35, e_iconst (38) 37), (37, e_iconst (0) 38), (38, e_callV opsS cal 168 2 12 41), (41, e_goto 4), (44, e_vret)]
set_option maxRecDepth 100000 in
set_option maxHeartbeats 4000000 in
theorem tk_X12_both {ad0 : Nat → Nat} {G : Gm} {A : Nat → Prop} {p : Program} {l : Launch} {e : Env} {R : Room} {s0 : State} {m : MethodId} {args : Array Value} {below : List Frame} {meth : Method} {c : Code} {Q : State → Prop} {ρ : Type} {ret : Option Value → SS → Option ρ} {r : ρ} (X : Cx G A RX12 cX12_both 1 p s0 m args c) {D' : Nat} {cal : Cal SS} (hcal : calOK l G opsS D' cal) (hRm : ∀ k, k ≤ 21 → D' + 1 ≤ R.frames ∧ 8 + (k + 11) + 40 * D' ≤ R.locals) (hret : RetK G A cX12_both 113 6344 ad0 p l e R s0 m args below meth c Q opsS ret r .return_ okV) : ∀ q ∈ tb_X12_both cal, OKi G A 1 113 6344 ad0 p l e R s0 m args below meth c Q opsS ret r q.1 q.2 :=
    okc (ok_aload_n (j := 0) X (by decide +kernel) rfl rfl) (
    okc (ok_callV (ci := 12) (C := RX12) (T := TX12) (N := 63) (Y := (yX12_compared, cX12_compared, 2, none)) X hcal opsS_n md_X12_compared rfl (by decide) rfl wc_X12_compared wl_X12_233 wi_X12 wm_X12_compared wv_X12_compared (by decide +kernel) (hRm 2 (by decide)) (by decide +kernel) rfl) (
    okc (ok_aload_n (j := 0) X (by decide +kernel) rfl rfl) (
    okc (ok_getI (ci := 12) (kf := 25) (idx := 190) (C := RX12) (T := TX12) (N := 63) X rfl (by decide) inX12 (by decide) wf_X12_190 (fun _ _ _ => rfl) (by decide +kernel) rfl) (
    okc (ok_ifge (off := 36) X (by decide +kernel) (by decide) rfl) (
    okc (ok_aload_n (j := 0) X (by decide +kernel) rfl rfl) (
    okc (ok_callV (ci := 12) (C := RX12) (T := TX12) (N := 63) (Y := (yX12_look, cX12_look, 1, (some .int))) X hcal opsS_n md_X12_look rfl (by decide) rfl wc_X12_look wl_X12_202 wi_X12 wm_X12_look wv_X12_look (by decide +kernel) (hRm 1 (by decide)) (by decide +kernel) rfl) (
    okc (ok_bipush (n := 38) X (by decide +kernel) rfl rfl) (
    okc (ok_cne (off := 27) X (by decide +kernel) (by decide) rfl) (
    okc (ok_aload_n (j := 0) X (by decide +kernel) rfl rfl) (
    okc (ok_dup X (by decide +kernel) rfl) (
    okc (ok_getI (ci := 12) (kf := 24) (idx := 187) (C := RX12) (T := TX12) (N := 63) X rfl (by decide) inX12 (by decide) wf_X12_187 (fun _ _ _ => rfl) (by decide +kernel) rfl) (
    okc (ok_iconst (n := 1) X (by decide +kernel) rfl rfl) (
    okc (ok_iadd X (by decide +kernel) rfl) (
    okc (ok_putI (ci := 12) (kf := 24) (idx := 187) (C := RX12) (T := TX12) (N := 63) X opsS_ok rfl (by decide) inX12 tyX12_ok nmX12 (by decide) wf_X12_187 rfl (fun _ _ _ => rfl) (by decide +kernel) (by decide +kernel) rfl) (
    okc (ok_aload_n (j := 0) X (by decide +kernel) rfl rfl) (
    okc (ok_callV (ci := 12) (C := RX12) (T := TX12) (N := 63) (Y := (yX12_compared, cX12_compared, 2, none)) X hcal opsS_n md_X12_compared rfl (by decide) rfl wc_X12_compared wl_X12_233 wi_X12 wm_X12_compared wv_X12_compared (by decide +kernel) (hRm 2 (by decide)) (by decide +kernel) rfl) (
    okc (ok_aload_n (j := 0) X (by decide +kernel) rfl rfl) (
    okc (ok_bipush (n := 38) X (by decide +kernel) rfl rfl) (
    okc (ok_iconst (n := 0) X (by decide +kernel) rfl rfl) (
    okc (ok_callV (ci := 12) (C := RX12) (T := TX12) (N := 63) (Y := (yX12_addStep, cX12_addStep, 3, none)) X hcal opsS_n md_X12_addStep rfl (by decide) rfl wc_X12_addStep wl_X12_206 wi_X12 wm_X12_addStep wv_X12_addStep (by decide +kernel) (hRm 3 (by decide)) (by decide +kernel) rfl) (
    okc (ok_goto (off := -37) X (by decide +kernel) (by decide)) (
    okc (ok_vret hret (by decide +kernel)) (
    okn)))))))))))))))))))))))
noncomputable def es_X12_both (rc : Nat → SS → Option SS) : List (Nat × En) := [(175, en_X12_compared rc), (166, en_X12_look), (168, en_X12_addStep)]
noncomputable def ka_X12_both_4 (rc : Nat → SS → Option SS)  (n : Nat) : Kn SS SS := fun pc ls st s => bif Nat.beq pc 4 then (match ls, st with
    | [some y0], [] => (gd (veq y0 (.ref 74)) (F_X12_both_4 rc n s))
    | _, _ => none) else (none)
set_option maxRecDepth 100000 in
set_option maxHeartbeats 4000000 in
theorem eq_X12_both_4 (rc : Nat → SS → Option SS)   (n : Nat)  (s : SS) : ex (tb_X12_both (calE (es_X12_both rc))) rV [4] (ka_X12_both_4 rc  n) 25 4 [some (.ref 74)] [] s = F_X12_both_4 rc  (n + 1)  s := by
  rfl
set_option maxRecDepth 100000 in
set_option maxHeartbeats 4000000 in
theorem gd_X12_both_4 {ad0 : Nat → Nat} {G : Gm} {A : Nat → Prop} {p : Program} {l : Launch} {e : Env} {R : Room} {s0 : State} {m : MethodId} {args : Array Value} {below : List Frame} {meth : Method} {c : Code} {Q : State → Prop} {r : SS} {rc : Nat → SS → Option SS}  (hT : ∀ q ∈ tb_X12_both (calE (es_X12_both rc)), OKi G A 1 113 6344 ad0 p l e R s0 m args below meth c Q opsS rV r q.1 q.2)   : ∀ (n : Nat)  (s : SS), F_X12_both_4 rc  n  s = some r → Gd G A 1 113 6344 ad0 p l e R s0 m args below meth c Q opsS 4 [some (.ref 74)] [] s := by
  intro n
  induction n with
  | zero =>
    intro  s hh
    exact absurd (show (none : Option SS) = some r from hh) (by simp)
  | succ n ih =>
    intro  s hh
    rw [← eq_X12_both_4 rc   n  s] at hh
    refine ex_good hT (fun pc' ls' st' x' hh => ?_) 25 4 _ [] s hh
    unfold ka_X12_both_4 at hh
    cases hb : Nat.beq pc' 4 with
    | true =>
      rw [hb] at hh
      have e9 := beq1 hb
      subst e9
      simp only [cond_true] at hh
      split at hh
      · obtain ⟨g0, hh1⟩ := gd_some hh
        have e0 := veq_of g0
        subst e0
        exact Gd.wk (ih  _ hh1) (Lle.eq Lle.nil)
      · cases hh
    | false =>
      rw [hb] at hh
      simp only [cond_false] at hh
      cases hh

noncomputable def ka_X12_both (rc : Nat → SS → Option SS) : Kn SS SS := fun pc ls st s => bif Nat.beq pc 4 then (match ls, st with
    | [some y0], [] => (gd (veq y0 (.ref 74)) (F_X12_both_4 rc fuel0 s))
    | _, _ => none) else (none)
set_option maxRecDepth 100000 in
set_option maxHeartbeats 4000000 in
theorem eq_X12_both (rc : Nat → SS → Option SS)   (s : SS) : ex (tb_X12_both (calE (es_X12_both rc))) rV [4] (ka_X12_both rc) 25 0 [some (.ref 74)] [] s = f_X12_both rc s := by
  rfl
set_option maxRecDepth 100000 in
set_option maxHeartbeats 4000000 in
theorem run_X12_both {l : Launch} {G : Gm} {rc : Nat → SS → Option SS}   (s : SS) (q : SS) (h : f_X12_both rc s = some q) (D' : Nat) (hD : 1 ≤ D') (hrc : rc_X12R l G D' rc) : RunsM l G (D' + 1) (md 176) (embS s) [.ref 74] none (embS q) := by
  rw [md_X12_both]
  refine runs_V (plainFor_of_name (by decide +kernel)) (Nat.le_of_ble_eq_true rfl) rfl ?_
  intro A p e R s0 m args below meth c Q ad0 hR X hret
  have X : Cx G A RX12 cX12_both 1 p s0 m args c := X
  have hT := tk_X12_both X (calE_ok (es := es_X12_both rc) (enc (en_X12_compared_ok hrc) (enc (en_X12_look_ok _ (by omega)) (enc (en_X12_addStep_ok _ (by omega)) (enn))))) (rmD rfl hR) hret
  rw [← eq_X12_both rc   s] at h
  refine ex_good hT (fun pc' ls' st' x' hh => ?_) 25 0 _ [] s h
  unfold ka_X12_both at hh
  cases hb : Nat.beq pc' 4 with
  | true =>
    rw [hb] at hh
    have e9 := beq1 hb
    subst e9
    simp only [cond_true] at hh
    split at hh
    · obtain ⟨g0, hh1⟩ := gd_some hh
      have e0 := veq_of g0
      subst e0
      exact Gd.wk (gd_X12_both_4 hT  _  _ hh1) (Lle.eq Lle.nil)
    · cases hh
  | false =>
    rw [hb] at hh
    simp only [cond_false] at hh
    cases hh


/-! HatRankModel either -/
noncomputable def tb_X12_either (cal : Cal SS) : List (Nat × Ins SS) := [(0, e_aload 0 1), (1, e_callV opsS cal 176 0 12 4), (4, e_aload 0 5), (5, e_getI opsS 12 25 8), (8, e_ifge 44 11), (11, e_aload 0 12), (12, e_callV opsS cal 166 0 12 15), (15, e_iconst (124) 17), (17, e_cne 44 20), (20, e_aload 0 21), (21, e_dup 22), (22, e_getI opsS 12 24 25), (25, e_iconst (1) 26), (26, e_bin aAdd 27), (27, e_putI opsS 12 24 30), (30, e_aload 0 31), (31, e_callV opsS cal 176 0 12 34), (34, e_aload 0 35), (35, e_iconst (124) 37), (37, e_iconst (0) 38), (38, e_callV opsS cal 168 2 12 41), (41, e_goto 4), (44, e_vret)]
set_option maxRecDepth 100000 in
set_option maxHeartbeats 4000000 in
theorem tk_X12_either {ad0 : Nat → Nat} {G : Gm} {A : Nat → Prop} {p : Program} {l : Launch} {e : Env} {R : Room} {s0 : State} {m : MethodId} {args : Array Value} {below : List Frame} {meth : Method} {c : Code} {Q : State → Prop} {ρ : Type} {ret : Option Value → SS → Option ρ} {r : ρ} (X : Cx G A RX12 cX12_either 1 p s0 m args c) {D' : Nat} {cal : Cal SS} (hcal : calOK l G opsS D' cal) (hRm : ∀ k, k ≤ 21 → D' + 1 ≤ R.frames ∧ 8 + (k + 11) + 40 * D' ≤ R.locals) (hret : RetK G A cX12_either 113 6344 ad0 p l e R s0 m args below meth c Q opsS ret r .return_ okV) : ∀ q ∈ tb_X12_either cal, OKi G A 1 113 6344 ad0 p l e R s0 m args below meth c Q opsS ret r q.1 q.2 :=
    okc (ok_aload_n (j := 0) X (by decide +kernel) rfl rfl) (
    okc (ok_callV (ci := 12) (C := RX12) (T := TX12) (N := 63) (Y := (yX12_both, cX12_both, 1, none)) X hcal opsS_n md_X12_both rfl (by decide) rfl wc_X12_both wl_X12_236 wi_X12 wm_X12_both wv_X12_both (by decide +kernel) (hRm 1 (by decide)) (by decide +kernel) rfl) (
    okc (ok_aload_n (j := 0) X (by decide +kernel) rfl rfl) (
    okc (ok_getI (ci := 12) (kf := 25) (idx := 190) (C := RX12) (T := TX12) (N := 63) X rfl (by decide) inX12 (by decide) wf_X12_190 (fun _ _ _ => rfl) (by decide +kernel) rfl) (
    okc (ok_ifge (off := 36) X (by decide +kernel) (by decide) rfl) (
    okc (ok_aload_n (j := 0) X (by decide +kernel) rfl rfl) (
    okc (ok_callV (ci := 12) (C := RX12) (T := TX12) (N := 63) (Y := (yX12_look, cX12_look, 1, (some .int))) X hcal opsS_n md_X12_look rfl (by decide) rfl wc_X12_look wl_X12_202 wi_X12 wm_X12_look wv_X12_look (by decide +kernel) (hRm 1 (by decide)) (by decide +kernel) rfl) (
    okc (ok_bipush (n := 124) X (by decide +kernel) rfl rfl) (
    okc (ok_cne (off := 27) X (by decide +kernel) (by decide) rfl) (
    okc (ok_aload_n (j := 0) X (by decide +kernel) rfl rfl) (
    okc (ok_dup X (by decide +kernel) rfl) (
    okc (ok_getI (ci := 12) (kf := 24) (idx := 187) (C := RX12) (T := TX12) (N := 63) X rfl (by decide) inX12 (by decide) wf_X12_187 (fun _ _ _ => rfl) (by decide +kernel) rfl) (
    okc (ok_iconst (n := 1) X (by decide +kernel) rfl rfl) (
    okc (ok_iadd X (by decide +kernel) rfl) (
    okc (ok_putI (ci := 12) (kf := 24) (idx := 187) (C := RX12) (T := TX12) (N := 63) X opsS_ok rfl (by decide) inX12 tyX12_ok nmX12 (by decide) wf_X12_187 rfl (fun _ _ _ => rfl) (by decide +kernel) (by decide +kernel) rfl) (
    okc (ok_aload_n (j := 0) X (by decide +kernel) rfl rfl) (
    okc (ok_callV (ci := 12) (C := RX12) (T := TX12) (N := 63) (Y := (yX12_both, cX12_both, 1, none)) X hcal opsS_n md_X12_both rfl (by decide) rfl wc_X12_both wl_X12_236 wi_X12 wm_X12_both wv_X12_both (by decide +kernel) (hRm 1 (by decide)) (by decide +kernel) rfl) (
    okc (ok_aload_n (j := 0) X (by decide +kernel) rfl rfl) (
    okc (ok_bipush (n := 124) X (by decide +kernel) rfl rfl) (
    okc (ok_iconst (n := 0) X (by decide +kernel) rfl rfl) (
    okc (ok_callV (ci := 12) (C := RX12) (T := TX12) (N := 63) (Y := (yX12_addStep, cX12_addStep, 3, none)) X hcal opsS_n md_X12_addStep rfl (by decide) rfl wc_X12_addStep wl_X12_206 wi_X12 wm_X12_addStep wv_X12_addStep (by decide +kernel) (hRm 3 (by decide)) (by decide +kernel) rfl) (
    okc (ok_goto (off := -37) X (by decide +kernel) (by decide)) (
    okc (ok_vret hret (by decide +kernel)) (
    okn)))))))))))))))))))))))
noncomputable def es_X12_either (rc : Nat → SS → Option SS) : List (Nat × En) := [(176, en_X12_both rc), (166, en_X12_look), (168, en_X12_addStep)]
noncomputable def ka_X12_either_4 (rc : Nat → SS → Option SS)  (n : Nat) : Kn SS SS := fun pc ls st s => bif Nat.beq pc 4 then (match ls, st with
    | [some y0], [] => (gd (veq y0 (.ref 74)) (F_X12_either_4 rc n s))
    | _, _ => none) else (none)
set_option maxRecDepth 100000 in
set_option maxHeartbeats 4000000 in
theorem eq_X12_either_4 (rc : Nat → SS → Option SS)   (n : Nat)  (s : SS) : ex (tb_X12_either (calE (es_X12_either rc))) rV [4] (ka_X12_either_4 rc  n) 25 4 [some (.ref 74)] [] s = F_X12_either_4 rc  (n + 1)  s := by
  rfl
set_option maxRecDepth 100000 in
set_option maxHeartbeats 4000000 in
theorem gd_X12_either_4 {ad0 : Nat → Nat} {G : Gm} {A : Nat → Prop} {p : Program} {l : Launch} {e : Env} {R : Room} {s0 : State} {m : MethodId} {args : Array Value} {below : List Frame} {meth : Method} {c : Code} {Q : State → Prop} {r : SS} {rc : Nat → SS → Option SS}  (hT : ∀ q ∈ tb_X12_either (calE (es_X12_either rc)), OKi G A 1 113 6344 ad0 p l e R s0 m args below meth c Q opsS rV r q.1 q.2)   : ∀ (n : Nat)  (s : SS), F_X12_either_4 rc  n  s = some r → Gd G A 1 113 6344 ad0 p l e R s0 m args below meth c Q opsS 4 [some (.ref 74)] [] s := by
  intro n
  induction n with
  | zero =>
    intro  s hh
    exact absurd (show (none : Option SS) = some r from hh) (by simp)
  | succ n ih =>
    intro  s hh
    rw [← eq_X12_either_4 rc   n  s] at hh
    refine ex_good hT (fun pc' ls' st' x' hh => ?_) 25 4 _ [] s hh
    unfold ka_X12_either_4 at hh
    cases hb : Nat.beq pc' 4 with
    | true =>
      rw [hb] at hh
      have e9 := beq1 hb
      subst e9
      simp only [cond_true] at hh
      split at hh
      · obtain ⟨g0, hh1⟩ := gd_some hh
        have e0 := veq_of g0
        subst e0
        exact Gd.wk (ih  _ hh1) (Lle.eq Lle.nil)
      · cases hh
    | false =>
      rw [hb] at hh
      simp only [cond_false] at hh
      cases hh

noncomputable def ka_X12_either (rc : Nat → SS → Option SS) : Kn SS SS := fun pc ls st s => bif Nat.beq pc 4 then (match ls, st with
    | [some y0], [] => (gd (veq y0 (.ref 74)) (F_X12_either_4 rc fuel0 s))
    | _, _ => none) else (none)
set_option maxRecDepth 100000 in
set_option maxHeartbeats 4000000 in
theorem eq_X12_either (rc : Nat → SS → Option SS)   (s : SS) : ex (tb_X12_either (calE (es_X12_either rc))) rV [4] (ka_X12_either rc) 25 0 [some (.ref 74)] [] s = f_X12_either rc s := by
  rfl
set_option maxRecDepth 100000 in
set_option maxHeartbeats 4000000 in
theorem run_X12_either {l : Launch} {G : Gm} {rc : Nat → SS → Option SS}   (s : SS) (q : SS) (h : f_X12_either rc s = some q) (D' : Nat) (hD : 1 ≤ D') (hrc : rc_X12R l G D' rc) : RunsM l G (D' + 1) (md 177) (embS s) [.ref 74] none (embS q) := by
  rw [md_X12_either]
  refine runs_V (plainFor_of_name (by decide +kernel)) (Nat.le_of_ble_eq_true rfl) rfl ?_
  intro A p e R s0 m args below meth c Q ad0 hR X hret
  have X : Cx G A RX12 cX12_either 1 p s0 m args c := X
  have hT := tk_X12_either X (calE_ok (es := es_X12_either rc) (enc (en_X12_both_ok hrc) (enc (en_X12_look_ok _ (by omega)) (enc (en_X12_addStep_ok _ (by omega)) (enn))))) (rmD rfl hR) hret
  rw [← eq_X12_either rc   s] at h
  refine ex_good hT (fun pc' ls' st' x' hh => ?_) 25 0 _ [] s h
  unfold ka_X12_either at hh
  cases hb : Nat.beq pc' 4 with
  | true =>
    rw [hb] at hh
    have e9 := beq1 hb
    subst e9
    simp only [cond_true] at hh
    split at hh
    · obtain ⟨g0, hh1⟩ := gd_some hh
      have e0 := veq_of g0
      subst e0
      exact Gd.wk (gd_X12_either_4 hT  _  _ hh1) (Lle.eq Lle.nil)
    · cases hh
  | false =>
    rw [hb] at hh
    simp only [cond_false] at hh
    cases hh


set_option maxRecDepth 100000 in
set_option maxHeartbeats 4000000 in
theorem g_X12R_ok {l : Launch} {G : Gm} : ∀ (n D : Nat), 3 + n ≤ D → rc_X12R l G D (g_X12R n) := by
  intro n
  induction n with
  | zero =>
    intro D hD
    exact ⟨fun  s q h => absurd (show (none : Option SS) = some q from h) (by simp), fun  s q h => absurd (show (none : Option SS) = some q from h) (by simp), fun  s q h => absurd (show (none : Option SS) = some q from h) (by simp), fun  s q h => absurd (show (none : Option SS) = some q from h) (by simp), fun  s q h => absurd (show (none : Option SS) = some q from h) (by simp), fun  s q h => absurd (show (none : Option SS) = some q from h) (by simp)⟩
  | succ n ih =>
    intro D hD
    obtain ⟨D', rfl⟩ : ∃ D', D = D' + 1 := ⟨D - 1, by omega⟩
    have hrc := ih D' (by omega)
    exact ⟨fun  s q h => run_X12_operand (rc := g_X12R n)  s q h D' (by omega) hrc, fun  s q h => run_X12_product (rc := g_X12R n)  s q h D' (by omega) hrc, fun  s q h => run_X12_sum (rc := g_X12R n)  s q h D' (by omega) hrc, fun  s q h => run_X12_compared (rc := g_X12R n)  s q h D' (by omega) hrc, fun  s q h => run_X12_both (rc := g_X12R n)  s q h D' (by omega) hrc, fun  s q h => run_X12_either (rc := g_X12R n)  s q h D' (by omega) hrc⟩
