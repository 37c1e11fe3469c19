/-! HatRank within -/
noncomputable def tb_X11_within (cal : Cal SS) : List (Nat × Ins SS) := [(0, e_iload 0 1), (1, e_iload 1 2), (2, e_clt 14 5), (5, e_iload 0 6), (6, e_iload 2 7), (7, e_cgt 14 10), (10, e_iconst (1) 11), (11, e_goto 15), (14, e_iconst (0) 15), (15, e_zret)]
set_option maxRecDepth 100000 in
set_option maxHeartbeats 4000000 in
theorem tk_X11_within {ad0 : Nat → Nat} {G : Gm} {A : Nat → Prop} {p : Program} {l : Launch} {e : Env} {R : Room} {s0 : State} {m : MethodId} {args : Array Value} {below : List Frame} {meth : Method} {c : Code} {Q : State → Prop} {ρ : Type} {ret : Option Value → SS → Option ρ} {r : ρ} (X : Cx G A RX11 cX11_within 3 p s0 m args c) {D' : Nat} {cal : Cal SS} (hcal : calOK l G opsS D' cal) (hRm : ∀ k, k ≤ 21 → D' + 1 ≤ R.frames ∧ 8 + (k + 11) + 40 * D' ≤ R.locals) (hret : RetK G A cX11_within 113 6344 ad0 p l e R s0 m args below meth c Q opsS ret r .ireturn okZ) : ∀ q ∈ tb_X11_within cal, OKi G A 3 113 6344 ad0 p l e R s0 m args below meth c Q opsS ret r q.1 q.2 :=
    okc (ok_iload_n (j := 0) X (by decide +kernel) rfl rfl) (
    okc (ok_iload_n (j := 1) X (by decide +kernel) rfl rfl) (
    okc (ok_clt (off := 12) X (by decide +kernel) (by decide) rfl) (
    okc (ok_iload_n (j := 0) X (by decide +kernel) rfl rfl) (
    okc (ok_iload_n (j := 2) X (by decide +kernel) rfl rfl) (
    okc (ok_cgt (off := 7) X (by decide +kernel) (by decide) rfl) (
    okc (ok_iconst (n := 1) X (by decide +kernel) rfl rfl) (
    okc (ok_goto (off := 4) X (by decide +kernel) (by decide)) (
    okc (ok_iconst (n := 0) X (by decide +kernel) rfl rfl) (
    okc (ok_zret hret (by decide +kernel)) (
    okn))))))))))
noncomputable def es_X11_within  : List (Nat × En) := []
set_option maxRecDepth 100000 in
set_option maxHeartbeats 4000000 in
theorem eq_X11_within   (a0 : Int32) (a1 : Int32) (a2 : Int32) (s : SS) : ex (tb_X11_within (calE (es_X11_within))) rI [] (fun _ _ _ _ => none) 12 0 [some (.int a0), some (.int a1), some (.int a2)] [] s = f_X11_within a0 a1 a2 s := by
  rfl
set_option maxRecDepth 100000 in
set_option maxHeartbeats 4000000 in
theorem run_X11_within {l : Launch} {G : Gm}   (a0 : Int32) (a1 : Int32) (a2 : Int32) (s : SS) (q : (Int32 × SS)) (h : f_X11_within a0 a1 a2 s = some q) (D' : Nat) (hD : 0 ≤ D') : RunsM l G (D' + 1) (md 136) (embS s) [.int a0, .int a1, .int a2] (some (.int q.1)) (embS q.2) := by
  rw [md_X11_within]
  refine runs_Z (plainFor_of_name (by decide +kernel)) (Nat.le_of_ble_eq_true rfl) rfl ?_
  intro A p e R s0 m args below meth c Q ad0 hR X hret
  have X : Cx G A RX11 cX11_within 3 p s0 m args c := X
  have hT := tk_X11_within X (calE_ok (es := es_X11_within) (enn)) (rmD rfl hR) hret
  rw [← eq_X11_within   a0 a1 a2 s] at h
  refine ex_good hT (fun pc' ls' st' x' hh => ?_) 12 0 _ [] s h
  cases hh

noncomputable def en_X11_within  : En := fun _ av s k => match av with
  | [.int a0, .int a1, .int a2] => (bI (f_X11_within a0 a1 a2 s) k)
  | _ => none
set_option maxRecDepth 100000 in
set_option maxHeartbeats 4000000 in
theorem en_X11_within_ok {l : Launch} {G : Gm} (D : Nat) (hD : 1 ≤ D) : enOK l G D 136 en_X11_within := by
  intro ρ av x k r h
  unfold en_X11_within at h
  split at h
  · obtain ⟨q, h1, h2⟩ := bind_of h
    obtain ⟨D', rfl⟩ : ∃ D', D = D' + 1 := ⟨D - 1, by omega⟩
    exact ⟨_, _, h2, run_X11_within  _ _ _ _ _ h1 D' (by omega)⟩
  · cases h

/-! HatRank place -/
noncomputable def tb_X11_place (cal : Cal SS) : List (Nat × Ins SS) := [(0, e_iload 1 1), (1, e_iconst (0) 2), (2, e_iconst (9) 4), (4, e_callS cal 136 3 7), (7, e_ifne 12 10), (10, e_iconst (-1) 11), (11, e_iret), (12, e_aload 0 13), (13, e_getR opsS 11 0 16), (16, e_iload 1 17), (17, e_callV opsS cal 79 1 9 20), (20, e_iret)]
set_option maxRecDepth 100000 in
set_option maxHeartbeats 4000000 in
theorem tk_X11_place {ad0 : Nat → Nat} {G : Gm} {A : Nat → Prop} {p : Program} {l : Launch} {e : Env} {R : Room} {s0 : State} {m : MethodId} {args : Array Value} {below : List Frame} {meth : Method} {c : Code} {Q : State → Prop} {ρ : Type} {ret : Option Value → SS → Option ρ} {r : ρ} (X : Cx G A RX11 cX11_place 2 p s0 m args c) {D' : Nat} {cal : Cal SS} (hcal : calOK l G opsS D' cal) (hRm : ∀ k, k ≤ 21 → D' + 1 ≤ R.frames ∧ 8 + (k + 11) + 40 * D' ≤ R.locals) (hret : RetK G A cX11_place 113 6344 ad0 p l e R s0 m args below meth c Q opsS ret r .ireturn okI) : ∀ q ∈ tb_X11_place cal, OKi G A 2 113 6344 ad0 p l e R s0 m args below meth c Q opsS ret r q.1 q.2 :=
    okc (ok_iload_n (j := 1) X (by decide +kernel) rfl rfl) (
    okc (ok_iconst (n := 0) X (by decide +kernel) rfl rfl) (
    okc (ok_bipush (n := 9) X (by decide +kernel) rfl rfl) (
    okc (ok_callS (Y := (yX11_within, cX11_within, 3, (some .boolean))) X hcal opsS_n md_X11_within wc_X11_within wl_X11_92 wi_X11 ws_X11_within (by decide +kernel) (hRm 3 (by decide)) (by decide +kernel) rfl) (
    okc (ok_ifne (off := 5) X (by decide +kernel) (by decide) rfl) (
    okc (ok_iconst (n := -1) X (by decide +kernel) rfl rfl) (
    okc (ok_iret hret (by decide +kernel)) (
    okc (ok_aload_n (j := 0) X (by decide +kernel) rfl rfl) (
    okc (ok_getR (ci := 11) (kf := 0) (idx := 10) (C := RX11) (T := TX11) (N := 15) X rfl (by decide) inX11 (by decide) wf_X11_10 (fun _ _ _ => rfl) (by decide +kernel) rfl) (
    okc (ok_iload_n (j := 1) X (by decide +kernel) rfl rfl) (
    okc (ok_callV (ci := 9) (C := RX9) (T := TX9) (N := 8) (Y := (yX9_addPlace, cX9_addPlace, 2, (some .int))) X hcal opsS_n md_X9_addPlace rfl (by decide) rfl wc_X9_addPlace wl_X11_96 wi_X9 wm_X9_addPlace wv_X9_addPlace (by decide +kernel) (hRm 2 (by decide)) (by decide +kernel) rfl) (
    okc (ok_iret hret (by decide +kernel)) (
    okn))))))))))))
noncomputable def es_X11_place  : List (Nat × En) := [(136, en_X11_within), (79, en_X9_addPlace)]
set_option maxRecDepth 100000 in
set_option maxHeartbeats 4000000 in
theorem eq_X11_place   (a0 : Int32) (s : SS) : ex (tb_X11_place (calE (es_X11_place))) rI [] (fun _ _ _ _ => none) 14 0 [some (.ref 0), some (.int a0)] [] s = f_X11_place a0 s := by
  rfl
set_option maxRecDepth 100000 in
set_option maxHeartbeats 4000000 in
theorem run_X11_place {l : Launch} {G : Gm}   (a0 : Int32) (s : SS) (q : (Int32 × SS)) (h : f_X11_place a0 s = some q) (D' : Nat) (hD : 1 ≤ D') : RunsM l G (D' + 1) (md 100) (embS s) [.ref 0, .int a0] (some (.int q.1)) (embS q.2) := by
  rw [md_X11_place]
  refine runs_I (plainFor_of_name (by decide +kernel)) (Nat.le_of_ble_eq_true rfl) rfl ?_
  intro A p e R s0 m args below meth c Q ad0 hR X hret
  have X : Cx G A RX11 cX11_place 2 p s0 m args c := X
  have hT := tk_X11_place X (calE_ok (es := es_X11_place) (enc (en_X11_within_ok _ (by omega)) (enc (en_X9_addPlace_ok _ (by omega)) (enn)))) (rmD rfl hR) hret
  rw [← eq_X11_place   a0 s] at h
  refine ex_good hT (fun pc' ls' st' x' hh => ?_) 14 0 _ [] s h
  cases hh

noncomputable def en_X11_place  : En := fun _ av s k => match av with
  | [.ref r0, .int a0] => (gd (Nat.beq r0 0) (bI (f_X11_place a0 s) k))
  | _ => none
set_option maxRecDepth 100000 in
set_option maxHeartbeats 4000000 in
theorem en_X11_place_ok {l : Launch} {G : Gm} (D : Nat) (hD : 2 ≤ D) : enOK l G D 100 en_X11_place := by
  intro ρ av x k r h
  unfold en_X11_place at h
  split at h
  · obtain ⟨g0, h⟩ := gd_some h
    obtain ⟨q, h1, h2⟩ := bind_of h
    have e0 := beq1 g0
    subst e0
    obtain ⟨D', rfl⟩ : ∃ D', D = D' + 1 := ⟨D - 1, by omega⟩
    exact ⟨_, _, h2, run_X11_place  _ _ _ h1 D' (by omega)⟩
  · cases h

/-! HatRank way -/
noncomputable def tb_X11_way (cal : Cal SS) : List (Nat × Ins SS) := [(0, e_iload 1 1), (1, e_ifge 6 4), (4, e_iconst (-1) 5), (5, e_iret), (6, e_iload 1 7), (7, e_iconst (10) 9), (9, e_div aDiv 10), (10, e_istore 2 11), (11, e_iload 1 12), (12, e_iconst (10) 14), (14, e_div aRem 15), (15, e_istore 3 16), (16, e_iload 2 17), (17, e_iload 3 18), (18, e_ceq 55 21), (21, e_aload 0 22), (22, e_getR opsS 11 0 25), (25, e_iload 2 26), (26, e_callV opsS cal 78 1 9 29), (29, e_ifeq 55 32), (32, e_aload 0 33), (33, e_getR opsS 11 0 36), (36, e_iload 3 37), (37, e_callV opsS cal 78 1 9 40), (40, e_ifeq 55 43), (43, e_aload 0 44), (44, e_getR opsS 11 0 47), (47, e_iload 2 48), (48, e_iload 3 49), (49, e_callV opsS cal 81 2 9 52), (52, e_ifeq 57 55), (55, e_iconst (-1) 56), (56, e_iret), (57, e_aload 0 58), (58, e_getR opsS 11 0 61), (61, e_iload 2 62), (62, e_iload 3 63), (63, e_callV opsS cal 82 2 9 66), (66, e_iret)]
set_option maxRecDepth 100000 in
set_option maxHeartbeats 4000000 in
theorem tk_X11_way {ad0 : Nat → Nat} {G : Gm} {A : Nat → Prop} {p : Program} {l : Launch} {e : Env} {R : Room} {s0 : State} {m : MethodId} {args : Array Value} {below : List Frame} {meth : Method} {c : Code} {Q : State → Prop} {ρ : Type} {ret : Option Value → SS → Option ρ} {r : ρ} (X : Cx G A RX11 cX11_way 4 p s0 m args c) {D' : Nat} {cal : Cal SS} (hcal : calOK l G opsS D' cal) (hRm : ∀ k, k ≤ 21 → D' + 1 ≤ R.frames ∧ 8 + (k + 11) + 40 * D' ≤ R.locals) (hret : RetK G A cX11_way 113 6344 ad0 p l e R s0 m args below meth c Q opsS ret r .ireturn okI) : ∀ q ∈ tb_X11_way cal, OKi G A 4 113 6344 ad0 p l e R s0 m args below meth c Q opsS ret r q.1 q.2 :=
    okc (ok_iload_n (j := 1) X (by decide +kernel) rfl rfl) (
    okc (ok_ifge (off := 5) X (by decide +kernel) (by decide) rfl) (
    okc (ok_iconst (n := -1) X (by decide +kernel) rfl rfl) (
    okc (ok_iret hret (by decide +kernel)) (
    okc (ok_iload_n (j := 1) X (by decide +kernel) rfl rfl) (
    okc (ok_bipush (n := 10) X (by decide +kernel) rfl rfl) (
    okc (ok_idiv X (by decide +kernel) rfl) (
    okc (ok_istore_n (j := 2) X (by decide +kernel) rfl rfl) (
    okc (ok_iload_n (j := 1) X (by decide +kernel) rfl rfl) (
    okc (ok_bipush (n := 10) X (by decide +kernel) rfl rfl) (
    okc (ok_irem X (by decide +kernel) rfl) (
    okc (ok_istore_n (j := 3) X (by decide +kernel) rfl rfl) (
    okc (ok_iload_n (j := 2) X (by decide +kernel) rfl rfl) (
    okc (ok_iload_n (j := 3) X (by decide +kernel) rfl rfl) (
    okc (ok_ceq (off := 37) X (by decide +kernel) (by decide) rfl) (
    okc (ok_aload_n (j := 0) X (by decide +kernel) rfl rfl) (
    okc (ok_getR (ci := 11) (kf := 0) (idx := 10) (C := RX11) (T := TX11) (N := 15) X rfl (by decide) inX11 (by decide) wf_X11_10 (fun _ _ _ => rfl) (by decide +kernel) rfl) (
    okc (ok_iload_n (j := 2) X (by decide +kernel) rfl rfl) (
    okc (ok_callV (ci := 9) (C := RX9) (T := TX9) (N := 8) (Y := (yX9_hasPlace, cX9_hasPlace, 2, (some .boolean))) X hcal opsS_n md_X9_hasPlace rfl (by decide) rfl wc_X9_hasPlace wl_X11_100 wi_X9 wm_X9_hasPlace wv_X9_hasPlace (by decide +kernel) (hRm 2 (by decide)) (by decide +kernel) rfl) (
    okc (ok_ifeq (off := 26) X (by decide +kernel) (by decide) rfl) (
    okc (ok_aload_n (j := 0) X (by decide +kernel) rfl rfl) (
    okc (ok_getR (ci := 11) (kf := 0) (idx := 10) (C := RX11) (T := TX11) (N := 15) X rfl (by decide) inX11 (by decide) wf_X11_10 (fun _ _ _ => rfl) (by decide +kernel) rfl) (
    okc (ok_iload_n (j := 3) X (by decide +kernel) rfl rfl) (
    okc (ok_callV (ci := 9) (C := RX9) (T := TX9) (N := 8) (Y := (yX9_hasPlace, cX9_hasPlace, 2, (some .boolean))) X hcal opsS_n md_X9_hasPlace rfl (by decide) rfl wc_X9_hasPlace wl_X11_100 wi_X9 wm_X9_hasPlace wv_X9_hasPlace (by decide +kernel) (hRm 2 (by decide)) (by decide +kernel) rfl) (
    okc (ok_ifeq (off := 15) X (by decide +kernel) (by decide) rfl) (
    okc (ok_aload_n (j := 0) X (by decide +kernel) rfl rfl) (
    okc (ok_getR (ci := 11) (kf := 0) (idx := 10) (C := RX11) (T := TX11) (N := 15) X rfl (by decide) inX11 (by decide) wf_X11_10 (fun _ _ _ => rfl) (by decide +kernel) rfl) (
    okc (ok_iload_n (j := 2) X (by decide +kernel) rfl rfl) (
    okc (ok_iload_n (j := 3) X (by decide +kernel) rfl rfl) (
    okc (ok_callV (ci := 9) (C := RX9) (T := TX9) (N := 8) (Y := (yX9_joined, cX9_joined, 3, (some .boolean))) X hcal opsS_n md_X9_joined rfl (by decide) rfl wc_X9_joined wl_X11_104 wi_X9 wm_X9_joined wv_X9_joined (by decide +kernel) (hRm 3 (by decide)) (by decide +kernel) rfl) (
    okc (ok_ifeq (off := 5) X (by decide +kernel) (by decide) rfl) (
    okc (ok_iconst (n := -1) X (by decide +kernel) rfl rfl) (
    okc (ok_iret hret (by decide +kernel)) (
    okc (ok_aload_n (j := 0) X (by decide +kernel) rfl rfl) (
    okc (ok_getR (ci := 11) (kf := 0) (idx := 10) (C := RX11) (T := TX11) (N := 15) X rfl (by decide) inX11 (by decide) wf_X11_10 (fun _ _ _ => rfl) (by decide +kernel) rfl) (
    okc (ok_iload_n (j := 2) X (by decide +kernel) rfl rfl) (
    okc (ok_iload_n (j := 3) X (by decide +kernel) rfl rfl) (
    okc (ok_callV (ci := 9) (C := RX9) (T := TX9) (N := 8) (Y := (yX9_addWay, cX9_addWay, 3, (some .int))) X hcal opsS_n md_X9_addWay rfl (by decide) rfl wc_X9_addWay wl_X11_108 wi_X9 wm_X9_addWay wv_X9_addWay (by decide +kernel) (hRm 3 (by decide)) (by decide +kernel) rfl) (
    okc (ok_iret hret (by decide +kernel)) (
    okn)))))))))))))))))))))))))))))))))))))))
noncomputable def es_X11_way  : List (Nat × En) := [(78, en_X9_hasPlace), (81, en_X9_joined), (82, en_X9_addWay)]
set_option maxRecDepth 100000 in
set_option maxHeartbeats 4000000 in
theorem eq_X11_way   (a0 : Int32) (s : SS) : ex (tb_X11_way (calE (es_X11_way))) rI [] (fun _ _ _ _ => none) 41 0 [some (.ref 0), some (.int a0), none, none] [] s = f_X11_way a0 s := by
  rfl
set_option maxRecDepth 100000 in
set_option maxHeartbeats 4000000 in
theorem run_X11_way {l : Launch} {G : Gm}   (a0 : Int32) (s : SS) (q : (Int32 × SS)) (h : f_X11_way a0 s = some q) (D' : Nat) (hD : 2 ≤ D') : RunsM l G (D' + 1) (md 101) (embS s) [.ref 0, .int a0] (some (.int q.1)) (embS q.2) := by
  rw [md_X11_way]
  refine runs_I (plainFor_of_name (by decide +kernel)) (Nat.le_of_ble_eq_true rfl) rfl ?_
  intro A p e R s0 m args below meth c Q ad0 hR X hret
  have X : Cx G A RX11 cX11_way 4 p s0 m args c := X
  have hT := tk_X11_way X (calE_ok (es := es_X11_way) (enc (en_X9_hasPlace_ok _ (by omega)) (enc (en_X9_joined_ok _ (by omega)) (enc (en_X9_addWay_ok _ (by omega)) (enn))))) (rmD rfl hR) hret
  rw [← eq_X11_way   a0 s] at h
  refine ex_good hT (fun pc' ls' st' x' hh => ?_) 41 0 _ [] s h
  cases hh

noncomputable def en_X11_way  : En := fun _ av s k => match av with
  | [.ref r0, .int a0] => (gd (Nat.beq r0 0) (bI (f_X11_way a0 s) k))
  | _ => none
set_option maxRecDepth 100000 in
set_option maxHeartbeats 4000000 in
theorem en_X11_way_ok {l : Launch} {G : Gm} (D : Nat) (hD : 3 ≤ D) : enOK l G D 101 en_X11_way := by
  intro ρ av x k r h
  unfold en_X11_way at h
  split at h
  · obtain ⟨g0, h⟩ := gd_some h
    obtain ⟨q, h1, h2⟩ := bind_of h
    have e0 := beq1 g0
    subst e0
    obtain ⟨D', rfl⟩ : ∃ D', D = D' + 1 := ⟨D - 1, by omega⟩
    exact ⟨_, _, h2, run_X11_way  _ _ _ h1 D' (by omega)⟩
  · cases h

/-! HatRank newPerson -/
noncomputable def tb_X11_newPerson (cal : Cal SS) : List (Nat × Ins SS) := [(0, e_iload 1 1), (1, e_iconst (0) 2), (2, e_iconst (9) 4), (4, e_callS cal 136 3 7), (7, e_ifeq 31 10), (10, e_iload 2 11), (11, e_iconst (0) 12), (12, e_iconst (9) 14), (14, e_callS cal 136 3 17), (17, e_ifeq 31 20), (20, e_aload 0 21), (21, e_getR opsS 11 0 24), (24, e_iload 3 25), (25, e_callV opsS cal 78 1 9 28), (28, e_ifne 33 31), (31, e_iconst (-1) 32), (32, e_iret), (33, e_aload 0 34), (34, e_getR opsS 11 0 37), (37, e_iload 2 38), (38, e_callV opsS cal 80 1 9 41), (41, e_istore 4 43), (43, e_iload 4 45), (45, e_iflt 79 48), (48, e_aload 0 49), (49, e_getR opsS 11 1 52), (52, e_getR opsS 2 0 55), (55, e_iload 4 57), (57, e_iload 1 58), (58, e_ast opsS 100 (fun v => v) 59), (59, e_aload 0 60), (60, e_getR opsS 11 1 63), (63, e_getR opsS 2 1 66), (66, e_iload 4 68), (68, e_iload 3 69), (69, e_ast opsS 100 (fun v => v) 70), (70, e_aload 0 71), (71, e_getR opsS 11 10 74), (74, e_iload 4 76), (76, e_iconst (-5) 78), (78, e_ast opsS 100 (fun v => v) 79), (79, e_iload 4 81), (81, e_iret)]
set_option maxRecDepth 100000 in
set_option maxHeartbeats 4000000 in
theorem tk_X11_newPerson {ad0 : Nat → Nat} {G : Gm} {A : Nat → Prop} {p : Program} {l : Launch} {e : Env} {R : Room} {s0 : State} {m : MethodId} {args : Array Value} {below : List Frame} {meth : Method} {c : Code} {Q : State → Prop} {ρ : Type} {ret : Option Value → SS → Option ρ} {r : ρ} (X : Cx G A RX11 cX11_newPerson 5 p s0 m args c) {D' : Nat} {cal : Cal SS} (hcal : calOK l G opsS D' cal) (hRm : ∀ k, k ≤ 21 → D' + 1 ≤ R.frames ∧ 8 + (k + 11) + 40 * D' ≤ R.locals) (hret : RetK G A cX11_newPerson 113 6344 ad0 p l e R s0 m args below meth c Q opsS ret r .ireturn okI) : ∀ q ∈ tb_X11_newPerson cal, OKi G A 5 113 6344 ad0 p l e R s0 m args below meth c Q opsS ret r q.1 q.2 :=
    okc (ok_iload_n (j := 1) X (by decide +kernel) rfl rfl) (
    okc (ok_iconst (n := 0) X (by decide +kernel) rfl rfl) (
    okc (ok_bipush (n := 9) X (by decide +kernel) rfl rfl) (
    okc (ok_callS (Y := (yX11_within, cX11_within, 3, (some .boolean))) X hcal opsS_n md_X11_within wc_X11_within wl_X11_92 wi_X11 ws_X11_within (by decide +kernel) (hRm 3 (by decide)) (by decide +kernel) rfl) (
    okc (ok_ifeq (off := 24) X (by decide +kernel) (by decide) rfl) (
    okc (ok_iload_n (j := 2) X (by decide +kernel) rfl rfl) (
    okc (ok_iconst (n := 0) X (by decide +kernel) rfl rfl) (
    okc (ok_bipush (n := 9) X (by decide +kernel) rfl rfl) (
    okc (ok_callS (Y := (yX11_within, cX11_within, 3, (some .boolean))) X hcal opsS_n md_X11_within wc_X11_within wl_X11_92 wi_X11 ws_X11_within (by decide +kernel) (hRm 3 (by decide)) (by decide +kernel) rfl) (
    okc (ok_ifeq (off := 14) X (by decide +kernel) (by decide) rfl) (
    okc (ok_aload_n (j := 0) X (by decide +kernel) rfl rfl) (
    okc (ok_getR (ci := 11) (kf := 0) (idx := 10) (C := RX11) (T := TX11) (N := 15) X rfl (by decide) inX11 (by decide) wf_X11_10 (fun _ _ _ => rfl) (by decide +kernel) rfl) (
    okc (ok_iload_n (j := 3) X (by decide +kernel) rfl rfl) (
    okc (ok_callV (ci := 9) (C := RX9) (T := TX9) (N := 8) (Y := (yX9_hasPlace, cX9_hasPlace, 2, (some .boolean))) X hcal opsS_n md_X9_hasPlace rfl (by decide) rfl wc_X9_hasPlace wl_X11_100 wi_X9 wm_X9_hasPlace wv_X9_hasPlace (by decide +kernel) (hRm 2 (by decide)) (by decide +kernel) rfl) (
    okc (ok_ifne (off := 5) X (by decide +kernel) (by decide) rfl) (
    okc (ok_iconst (n := -1) X (by decide +kernel) rfl rfl) (
    okc (ok_iret hret (by decide +kernel)) (
    okc (ok_aload_n (j := 0) X (by decide +kernel) rfl rfl) (
    okc (ok_getR (ci := 11) (kf := 0) (idx := 10) (C := RX11) (T := TX11) (N := 15) X rfl (by decide) inX11 (by decide) wf_X11_10 (fun _ _ _ => rfl) (by decide +kernel) rfl) (
    okc (ok_iload_n (j := 2) X (by decide +kernel) rfl rfl) (
    okc (ok_callV (ci := 9) (C := RX9) (T := TX9) (N := 8) (Y := (yX9_addPerson, cX9_addPerson, 2, (some .int))) X hcal opsS_n md_X9_addPerson rfl (by decide) rfl wc_X9_addPerson wl_X11_333 wi_X9 wm_X9_addPerson wv_X9_addPerson (by decide +kernel) (hRm 2 (by decide)) (by decide +kernel) rfl) (
    okc (ok_istore X (by decide +kernel) rfl) (
    okc (ok_iload X (by decide +kernel) rfl) (
    okc (ok_iflt (off := 34) X (by decide +kernel) (by decide) rfl) (
    okc (ok_aload_n (j := 0) X (by decide +kernel) rfl rfl) (
    okc (ok_getR (ci := 11) (kf := 1) (idx := 19) (C := RX11) (T := TX11) (N := 15) X rfl (by decide) inX11 (by decide) wf_X11_19 (fun _ _ _ => rfl) (by decide +kernel) rfl) (
    okc (ok_getR (ci := 2) (kf := 0) (idx := 237) (C := RX2) (T := TX2) (N := 4) X rfl (by decide) inX2 (by decide) wf_X11_237 (fun _ _ _ => rfl) (by decide +kernel) rfl) (
    okc (ok_iload X (by decide +kernel) rfl) (
    okc (ok_iload_n (j := 1) X (by decide +kernel) rfl rfl) (
    okc (ok_iast X opsS_ok (by decide +kernel) rfl) (
    okc (ok_aload_n (j := 0) X (by decide +kernel) rfl rfl) (
    okc (ok_getR (ci := 11) (kf := 1) (idx := 19) (C := RX11) (T := TX11) (N := 15) X rfl (by decide) inX11 (by decide) wf_X11_19 (fun _ _ _ => rfl) (by decide +kernel) rfl) (
    okc (ok_getR (ci := 2) (kf := 1) (idx := 172) (C := RX2) (T := TX2) (N := 4) X rfl (by decide) inX2 (by decide) wf_X11_172 (fun _ _ _ => rfl) (by decide +kernel) rfl) (
    okc (ok_iload X (by decide +kernel) rfl) (
    okc (ok_iload_n (j := 3) X (by decide +kernel) rfl rfl) (
    okc (ok_iast X opsS_ok (by decide +kernel) rfl) (
    okc (ok_aload_n (j := 0) X (by decide +kernel) rfl rfl) (
    okc (ok_getR (ci := 11) (kf := 10) (idx := 85) (C := RX11) (T := TX11) (N := 15) X rfl (by decide) inX11 (by decide) wf_X11_85 (fun _ _ _ => rfl) (by decide +kernel) rfl) (
    okc (ok_iload X (by decide +kernel) rfl) (
    okc (ok_bipush (n := -5) X (by decide +kernel) rfl rfl) (
    okc (ok_iast X opsS_ok (by decide +kernel) rfl) (
    okc (ok_iload X (by decide +kernel) rfl) (
    okc (ok_iret hret (by decide +kernel)) (
    okn)))))))))))))))))))))))))))))))))))))))))))
noncomputable def es_X11_newPerson  : List (Nat × En) := [(136, en_X11_within), (78, en_X9_hasPlace), (80, en_X9_addPerson)]
set_option maxRecDepth 100000 in
set_option maxHeartbeats 4000000 in
theorem eq_X11_newPerson   (a0 : Int32) (a1 : Int32) (a2 : Int32) (s : SS) : ex (tb_X11_newPerson (calE (es_X11_newPerson))) rI [] (fun _ _ _ _ => none) 45 0 [some (.ref 0), some (.int a0), some (.int a1), some (.int a2), none] [] s = f_X11_newPerson a0 a1 a2 s := by
  rfl
set_option maxRecDepth 100000 in
set_option maxHeartbeats 4000000 in
theorem run_X11_newPerson {l : Launch} {G : Gm}   (a0 : Int32) (a1 : Int32) (a2 : Int32) (s : SS) (q : (Int32 × SS)) (h : f_X11_newPerson a0 a1 a2 s = some q) (D' : Nat) (hD : 1 ≤ D') : RunsM l G (D' + 1) (md 141) (embS s) [.ref 0, .int a0, .int a1, .int a2] (some (.int q.1)) (embS q.2) := by
  rw [md_X11_newPerson]
  refine runs_I (plainFor_of_name (by decide +kernel)) (Nat.le_of_ble_eq_true rfl) rfl ?_
  intro A p e R s0 m args below meth c Q ad0 hR X hret
  have X : Cx G A RX11 cX11_newPerson 5 p s0 m args c := X
  have hT := tk_X11_newPerson X (calE_ok (es := es_X11_newPerson) (enc (en_X11_within_ok _ (by omega)) (enc (en_X9_hasPlace_ok _ (by omega)) (enc (en_X9_addPerson_ok _ (by omega)) (enn))))) (rmD rfl hR) hret
  rw [← eq_X11_newPerson   a0 a1 a2 s] at h
  refine ex_good hT (fun pc' ls' st' x' hh => ?_) 45 0 _ [] s h
  cases hh

noncomputable def en_X11_newPerson  : En := fun _ av s k => match av with
  | [.ref r0, .int a0, .int a1, .int a2] => (gd (Nat.beq r0 0) (bI (f_X11_newPerson a0 a1 a2 s) k))
  | _ => none
set_option maxRecDepth 100000 in
set_option maxHeartbeats 4000000 in
theorem en_X11_newPerson_ok {l : Launch} {G : Gm} (D : Nat) (hD : 2 ≤ D) : enOK l G D 141 en_X11_newPerson := by
  intro ρ av x k r h
  unfold en_X11_newPerson at h
  split at h
  · obtain ⟨g0, h⟩ := gd_some h
    obtain ⟨q, h1, h2⟩ := bind_of h
    have e0 := beq1 g0
    subst e0
    obtain ⟨D', rfl⟩ : ∃ D', D = D' + 1 := ⟨D - 1, by omega⟩
    exact ⟨_, _, h2, run_X11_newPerson  _ _ _ _ _ h1 D' (by omega)⟩
  · cases h

/-! HatRank person -/
noncomputable def tb_X11_person (cal : Cal SS) : List (Nat × Ins SS) := [(0, e_iload 1 1), (1, e_iconst (0) 2), (2, e_iconst (99) 4), (4, e_callS cal 136 3 7), (7, e_ifne 12 10), (10, e_iconst (-1) 11), (11, e_iret), (12, e_aload 0 13), (13, e_iload 1 14), (14, e_iconst (10) 16), (16, e_div aDiv 17), (17, e_iload 1 18), (18, e_iconst (10) 20), (20, e_div aRem 21), (21, e_iload 2 22), (22, e_callV opsS cal 141 3 11 25), (25, e_iret)]
set_option maxRecDepth 100000 in
set_option maxHeartbeats 4000000 in
theorem tk_X11_person {ad0 : Nat → Nat} {G : Gm} {A : Nat → Prop} {p : Program} {l : Launch} {e : Env} {R : Room} {s0 : State} {m : MethodId} {args : Array Value} {below : List Frame} {meth : Method} {c : Code} {Q : State → Prop} {ρ : Type} {ret : Option Value → SS → Option ρ} {r : ρ} (X : Cx G A RX11 cX11_person 3 p s0 m args c) {D' : Nat} {cal : Cal SS} (hcal : calOK l G opsS D' cal) (hRm : ∀ k, k ≤ 21 → D' + 1 ≤ R.frames ∧ 8 + (k + 11) + 40 * D' ≤ R.locals) (hret : RetK G A cX11_person 113 6344 ad0 p l e R s0 m args below meth c Q opsS ret r .ireturn okI) : ∀ q ∈ tb_X11_person cal, OKi G A 3 113 6344 ad0 p l e R s0 m args below meth c Q opsS ret r q.1 q.2 :=
    okc (ok_iload_n (j := 1) X (by decide +kernel) rfl rfl) (
    okc (ok_iconst (n := 0) X (by decide +kernel) rfl rfl) (
    okc (ok_bipush (n := 99) X (by decide +kernel) rfl rfl) (
    okc (ok_callS (Y := (yX11_within, cX11_within, 3, (some .boolean))) X hcal opsS_n md_X11_within wc_X11_within wl_X11_92 wi_X11 ws_X11_within (by decide +kernel) (hRm 3 (by decide)) (by decide +kernel) rfl) (
    okc (ok_ifne (off := 5) X (by decide +kernel) (by decide) rfl) (
    okc (ok_iconst (n := -1) X (by decide +kernel) rfl rfl) (
    okc (ok_iret hret (by decide +kernel)) (
    okc (ok_aload_n (j := 0) X (by decide +kernel) rfl rfl) (
    okc (ok_iload_n (j := 1) X (by decide +kernel) rfl rfl) (
    okc (ok_bipush (n := 10) X (by decide +kernel) rfl rfl) (
    okc (ok_idiv X (by decide +kernel) rfl) (
    okc (ok_iload_n (j := 1) X (by decide +kernel) rfl rfl) (
    okc (ok_bipush (n := 10) X (by decide +kernel) rfl rfl) (
    okc (ok_irem X (by decide +kernel) rfl) (
    okc (ok_iload_n (j := 2) X (by decide +kernel) rfl rfl) (
    okc (ok_callV (ci := 11) (C := RX11) (T := TX11) (N := 15) (Y := (yX11_newPerson, cX11_newPerson, 5, (some .int))) X hcal opsS_n md_X11_newPerson rfl (by decide) rfl wc_X11_newPerson wl_X11_112 wi_X11 wm_X11_newPerson wv_X11_newPerson (by decide +kernel) (hRm 5 (by decide)) (by decide +kernel) rfl) (
    okc (ok_iret hret (by decide +kernel)) (
    okn)))))))))))))))))
noncomputable def es_X11_person  : List (Nat × En) := [(136, en_X11_within), (141, en_X11_newPerson)]
set_option maxRecDepth 100000 in
set_option maxHeartbeats 4000000 in
theorem eq_X11_person   (a0 : Int32) (a1 : Int32) (s : SS) : ex (tb_X11_person (calE (es_X11_person))) rI [] (fun _ _ _ _ => none) 19 0 [some (.ref 0), some (.int a0), some (.int a1)] [] s = f_X11_person a0 a1 s := by
  rfl
set_option maxRecDepth 100000 in
set_option maxHeartbeats 4000000 in
theorem run_X11_person {l : Launch} {G : Gm}   (a0 : Int32) (a1 : Int32) (s : SS) (q : (Int32 × SS)) (h : f_X11_person a0 a1 s = some q) (D' : Nat) (hD : 2 ≤ D') : RunsM l G (D' + 1) (md 102) (embS s) [.ref 0, .int a0, .int a1] (some (.int q.1)) (embS q.2) := by
  rw [md_X11_person]
  refine runs_I (plainFor_of_name (by decide +kernel)) (Nat.le_of_ble_eq_true rfl) rfl ?_
  intro A p e R s0 m args below meth c Q ad0 hR X hret
  have X : Cx G A RX11 cX11_person 3 p s0 m args c := X
  have hT := tk_X11_person X (calE_ok (es := es_X11_person) (enc (en_X11_within_ok _ (by omega)) (enc (en_X11_newPerson_ok _ (by omega)) (enn)))) (rmD rfl hR) hret
  rw [← eq_X11_person   a0 a1 s] at h
  refine ex_good hT (fun pc' ls' st' x' hh => ?_) 19 0 _ [] s h
  cases hh

noncomputable def en_X11_person  : En := fun _ av s k => match av with
  | [.ref r0, .int a0, .int a1] => (gd (Nat.beq r0 0) (bI (f_X11_person a0 a1 s) k))
  | _ => none
set_option maxRecDepth 100000 in
set_option maxHeartbeats 4000000 in
theorem en_X11_person_ok {l : Launch} {G : Gm} (D : Nat) (hD : 3 ≤ D) : enOK l G D 102 en_X11_person := by
  intro ρ av x k r h
  unfold en_X11_person at h
  split at h
  · obtain ⟨g0, h⟩ := gd_some h
    obtain ⟨q, h1, h2⟩ := bind_of h
    have e0 := beq1 g0
    subst e0
    obtain ⟨D', rfl⟩ : ∃ D', D = D' + 1 := ⟨D - 1, by omega⟩
    exact ⟨_, _, h2, run_X11_person  _ _ _ _ h1 D' (by omega)⟩
  · cases h

/-! HatRank newPersonFrom -/
noncomputable def tb_X11_newPersonFrom (cal : Cal SS) : List (Nat × Ins SS) := [(0, e_aload 0 1), (1, e_getR opsS 11 9 4), (4, e_iload 1 5), (5, e_iload 2 6), (6, e_callV opsS cal 58 2 7 9), (9, e_l2i 10), (10, e_istore 3 11), (11, e_aload 0 12), (12, e_getR opsS 11 9 15), (15, e_iload 1 16), (16, e_iload 2 17), (17, e_iconst (1) 18), (18, e_bin aAdd 19), (19, e_callV opsS cal 58 2 7 22), (22, e_l2i 23), (23, e_istore 4 25), (25, e_aload 0 26), (26, e_getR opsS 11 9 29), (29, e_iload 1 30), (30, e_iload 2 31), (31, e_iconst (2) 32), (32, e_bin aAdd 33), (33, e_callV opsS cal 58 2 7 36), (36, e_l2i 37), (37, e_istore 5 39), (39, e_aload 0 40), (40, e_iload 3 41), (41, e_iload 4 43), (43, e_iload 5 45), (45, e_callV opsS cal 141 3 11 48), (48, e_iret)]
set_option maxRecDepth 100000 in
set_option maxHeartbeats 4000000 in
theorem tk_X11_newPersonFrom {ad0 : Nat → Nat} {G : Gm} {A : Nat → Prop} {p : Program} {l : Launch} {e : Env} {R : Room} {s0 : State} {m : MethodId} {args : Array Value} {below : List Frame} {meth : Method} {c : Code} {Q : State → Prop} {ρ : Type} {ret : Option Value → SS → Option ρ} {r : ρ} (X : Cx G A RX11 cX11_newPersonFrom 6 p s0 m args c) {D' : Nat} {cal : Cal SS} (hcal : calOK l G opsS D' cal) (hRm : ∀ k, k ≤ 21 → D' + 1 ≤ R.frames ∧ 8 + (k + 11) + 40 * D' ≤ R.locals) (hret : RetK G A cX11_newPersonFrom 113 6344 ad0 p l e R s0 m args below meth c Q opsS ret r .ireturn okI) : ∀ q ∈ tb_X11_newPersonFrom cal, OKi G A 6 113 6344 ad0 p l e R s0 m args below meth c Q opsS ret r q.1 q.2 :=
    okc (ok_aload_n (j := 0) X (by decide +kernel) rfl rfl) (
    okc (ok_getR (ci := 11) (kf := 9) (idx := 81) (C := RX11) (T := TX11) (N := 15) X rfl (by decide) inX11 (by decide) wf_X11_81 (fun _ _ _ => rfl) (by decide +kernel) rfl) (
    okc (ok_iload_n (j := 1) X (by decide +kernel) rfl rfl) (
    okc (ok_iload_n (j := 2) X (by decide +kernel) rfl rfl) (
    okc (ok_callV (ci := 7) (C := RX7) (T := TX7) (N := 4) (Y := (yX7_get, cX7_get, 3, (some .long))) X hcal opsS_n md_X7_get rfl (by decide) rfl wc_X7_get wl_X11_296 wi_X7 wm_X7_get wv_X7_get (by decide +kernel) (hRm 3 (by decide)) (by decide +kernel) rfl) (
    okc (ok_l2i X (by decide +kernel) rfl) (
    okc (ok_istore_n (j := 3) X (by decide +kernel) rfl rfl) (
    okc (ok_aload_n (j := 0) X (by decide +kernel) rfl rfl) (
    okc (ok_getR (ci := 11) (kf := 9) (idx := 81) (C := RX11) (T := TX11) (N := 15) X rfl (by decide) inX11 (by decide) wf_X11_81 (fun _ _ _ => rfl) (by decide +kernel) rfl) (
    okc (ok_iload_n (j := 1) X (by decide +kernel) rfl rfl) (
    okc (ok_iload_n (j := 2) X (by decide +kernel) rfl rfl) (
    okc (ok_iconst (n := 1) X (by decide +kernel) rfl rfl) (
    okc (ok_iadd X (by decide +kernel) rfl) (
    okc (ok_callV (ci := 7) (C := RX7) (T := TX7) (N := 4) (Y := (yX7_get, cX7_get, 3, (some .long))) X hcal opsS_n md_X7_get rfl (by decide) rfl wc_X7_get wl_X11_296 wi_X7 wm_X7_get wv_X7_get (by decide +kernel) (hRm 3 (by decide)) (by decide +kernel) rfl) (
    okc (ok_l2i X (by decide +kernel) rfl) (
    okc (ok_istore X (by decide +kernel) rfl) (
    okc (ok_aload_n (j := 0) X (by decide +kernel) rfl rfl) (
    okc (ok_getR (ci := 11) (kf := 9) (idx := 81) (C := RX11) (T := TX11) (N := 15) X rfl (by decide) inX11 (by decide) wf_X11_81 (fun _ _ _ => rfl) (by decide +kernel) rfl) (
    okc (ok_iload_n (j := 1) X (by decide +kernel) rfl rfl) (
    okc (ok_iload_n (j := 2) X (by decide +kernel) rfl rfl) (
    okc (ok_iconst (n := 2) X (by decide +kernel) rfl rfl) (
    okc (ok_iadd X (by decide +kernel) rfl) (
    okc (ok_callV (ci := 7) (C := RX7) (T := TX7) (N := 4) (Y := (yX7_get, cX7_get, 3, (some .long))) X hcal opsS_n md_X7_get rfl (by decide) rfl wc_X7_get wl_X11_296 wi_X7 wm_X7_get wv_X7_get (by decide +kernel) (hRm 3 (by decide)) (by decide +kernel) rfl) (
    okc (ok_l2i X (by decide +kernel) rfl) (
    okc (ok_istore X (by decide +kernel) rfl) (
    okc (ok_aload_n (j := 0) X (by decide +kernel) rfl rfl) (
    okc (ok_iload_n (j := 3) X (by decide +kernel) rfl rfl) (
    okc (ok_iload X (by decide +kernel) rfl) (
    okc (ok_iload X (by decide +kernel) rfl) (
    okc (ok_callV (ci := 11) (C := RX11) (T := TX11) (N := 15) (Y := (yX11_newPerson, cX11_newPerson, 5, (some .int))) X hcal opsS_n md_X11_newPerson rfl (by decide) rfl wc_X11_newPerson wl_X11_112 wi_X11 wm_X11_newPerson wv_X11_newPerson (by decide +kernel) (hRm 5 (by decide)) (by decide +kernel) rfl) (
    okc (ok_iret hret (by decide +kernel)) (
    okn)))))))))))))))))))))))))))))))
noncomputable def es_X11_newPersonFrom  : List (Nat × En) := [(58, en_X7_get), (141, en_X11_newPerson)]
set_option maxRecDepth 100000 in
set_option maxHeartbeats 4000000 in
theorem eq_X11_newPersonFrom   (a0 : Int32) (a1 : Int32) (s : SS) : ex (tb_X11_newPersonFrom (calE (es_X11_newPersonFrom))) rI [] (fun _ _ _ _ => none) 33 0 [some (.ref 0), some (.int a0), some (.int a1), none, none, none] [] s = f_X11_newPersonFrom a0 a1 s := by
  rfl
set_option maxRecDepth 100000 in
set_option maxHeartbeats 4000000 in
theorem run_X11_newPersonFrom {l : Launch} {G : Gm}   (a0 : Int32) (a1 : Int32) (s : SS) (q : (Int32 × SS)) (h : f_X11_newPersonFrom a0 a1 s = some q) (D' : Nat) (hD : 4 ≤ D') : RunsM l G (D' + 1) (md 142) (embS s) [.ref 0, .int a0, .int a1] (some (.int q.1)) (embS q.2) := by
  rw [md_X11_newPersonFrom]
  refine runs_I (plainFor_of_name (by decide +kernel)) (Nat.le_of_ble_eq_true rfl) rfl ?_
  intro A p e R s0 m args below meth c Q ad0 hR X hret
  have X : Cx G A RX11 cX11_newPersonFrom 6 p s0 m args c := X
  have hT := tk_X11_newPersonFrom X (calE_ok (es := es_X11_newPersonFrom) (enc (en_X7_get_ok _ (by omega)) (enc (en_X11_newPerson_ok _ (by omega)) (enn)))) (rmD rfl hR) hret
  rw [← eq_X11_newPersonFrom   a0 a1 s] at h
  refine ex_good hT (fun pc' ls' st' x' hh => ?_) 33 0 _ [] s h
  cases hh

noncomputable def en_X11_newPersonFrom  : En := fun _ av s k => match av with
  | [.ref r0, .int a0, .int a1] => (gd (Nat.beq r0 0) (bI (f_X11_newPersonFrom a0 a1 s) k))
  | _ => none
set_option maxRecDepth 100000 in
set_option maxHeartbeats 4000000 in
theorem en_X11_newPersonFrom_ok {l : Launch} {G : Gm} (D : Nat) (hD : 5 ≤ D) : enOK l G D 142 en_X11_newPersonFrom := by
  intro ρ av x k r h
  unfold en_X11_newPersonFrom at h
  split at h
  · obtain ⟨g0, h⟩ := gd_some h
    obtain ⟨q, h1, h2⟩ := bind_of h
    have e0 := beq1 g0
    subst e0
    obtain ⟨D', rfl⟩ : ∃ D', D = D' + 1 := ⟨D - 1, by omega⟩
    exact ⟨_, _, h2, run_X11_newPersonFrom  _ _ _ _ h1 D' (by omega)⟩
  · cases h

/-! HatRank people -/
noncomputable def tb_X11_people (cal : Cal SS) : List (Nat × Ins SS) := [(0, e_aload 0 1), (1, e_getR opsS 11 9 4), (4, e_iload 1 5), (5, e_callV opsS cal 47 1 7 8), (8, e_ifeq 21 11), (11, e_iload 3 12), (12, e_iconst (1) 13), (13, e_iconst (6) 15), (15, e_callS cal 136 3 18), (18, e_ifne 23 21), (21, e_iconst (-1) 22), (22, e_iret), (23, e_aload 0 24), (24, e_getR opsS 11 9 27), (27, e_iload 1 28), (28, e_callV opsS cal 48 1 7 31), (31, e_ifeq 36 34), (34, e_iconst (0) 35), (35, e_iret), (36, e_aload 0 37), (37, e_getR opsS 11 9 40), (40, e_iload 1 41), (41, e_callV opsS cal 49 1 7 44), (44, e_ifne 50 47), (47, e_iconst (-12) 49), (49, e_iret), (50, e_iconst (0) 51), (51, e_istore 4 53), (53, e_iload 4 55), (55, e_iload 3 56), (56, e_cge 97 59), (59, e_aload 0 60), (60, e_getR opsS 11 9 63), (63, e_iload 1 64), (64, e_iload 2 65), (65, e_iconst (3) 66), (66, e_iload 4 68), (68, e_bin aMul 69), (69, e_iconst (3) 70), (70, e_bin aAdd 71), (71, e_callV opsS cal 61 3 7 74), (74, e_ifeq 97 77), (77, e_aload 0 78), (78, e_iload 1 79), (79, e_iload 2 80), (80, e_iconst (3) 81), (81, e_iload 4 83), (83, e_bin aMul 84), (84, e_bin aAdd 85), (85, e_callV opsS cal 142 2 11 88), (88, e_iflt 97 91), (91, e_iinc 4 (1) 94), (94, e_goto 53), (97, e_iload 4 99), (99, e_iret)]
set_option maxRecDepth 100000 in
set_option maxHeartbeats 4000000 in
theorem tk_X11_people {ad0 : Nat → Nat} {G : Gm} {A : Nat → Prop} {p : Program} {l : Launch} {e : Env} {R : Room} {s0 : State} {m : MethodId} {args : Array Value} {below : List Frame} {meth : Method} {c : Code} {Q : State → Prop} {ρ : Type} {ret : Option Value → SS → Option ρ} {r : ρ} (X : Cx G A RX11 cX11_people 5 p s0 m args c) {D' : Nat} {cal : Cal SS} (hcal : calOK l G opsS D' cal) (hRm : ∀ k, k ≤ 21 → D' + 1 ≤ R.frames ∧ 8 + (k + 11) + 40 * D' ≤ R.locals) (hret : RetK G A cX11_people 113 6344 ad0 p l e R s0 m args below meth c Q opsS ret r .ireturn okI) : ∀ q ∈ tb_X11_people cal, OKi G A 5 113 6344 ad0 p l e R s0 m args below meth c Q opsS ret r q.1 q.2 :=
    okc (ok_aload_n (j := 0) X (by decide +kernel) rfl rfl) (
    okc (ok_getR (ci := 11) (kf := 9) (idx := 81) (C := RX11) (T := TX11) (N := 15) X rfl (by decide) inX11 (by decide) wf_X11_81 (fun _ _ _ => rfl) (by decide +kernel) rfl) (
    okc (ok_iload_n (j := 1) X (by decide +kernel) rfl rfl) (
    okc (ok_callV (ci := 7) (C := RX7) (T := TX7) (N := 4) (Y := (yX7_has, cX7_has, 2, (some .boolean))) X hcal opsS_n md_X7_has rfl (by decide) rfl wc_X7_has wl_X11_116 wi_X7 wm_X7_has wv_X7_has (by decide +kernel) (hRm 2 (by decide)) (by decide +kernel) rfl) (
    okc (ok_ifeq (off := 13) X (by decide +kernel) (by decide) rfl) (
    okc (ok_iload_n (j := 3) X (by decide +kernel) rfl rfl) (
    okc (ok_iconst (n := 1) X (by decide +kernel) rfl rfl) (
    okc (ok_bipush (n := 6) X (by decide +kernel) rfl rfl) (
    okc (ok_callS (Y := (yX11_within, cX11_within, 3, (some .boolean))) X hcal opsS_n md_X11_within wc_X11_within wl_X11_92 wi_X11 ws_X11_within (by decide +kernel) (hRm 3 (by decide)) (by decide +kernel) rfl) (
    okc (ok_ifne (off := 5) X (by decide +kernel) (by decide) rfl) (
    okc (ok_iconst (n := -1) X (by decide +kernel) rfl rfl) (
    okc (ok_iret hret (by decide +kernel)) (
    okc (ok_aload_n (j := 0) X (by decide +kernel) rfl rfl) (
    okc (ok_getR (ci := 11) (kf := 9) (idx := 81) (C := RX11) (T := TX11) (N := 15) X rfl (by decide) inX11 (by decide) wf_X11_81 (fun _ _ _ => rfl) (by decide +kernel) rfl) (
    okc (ok_iload_n (j := 1) X (by decide +kernel) rfl rfl) (
    okc (ok_callV (ci := 7) (C := RX7) (T := TX7) (N := 4) (Y := (yX7_holdsNothing, cX7_holdsNothing, 2, (some .boolean))) X hcal opsS_n md_X7_holdsNothing rfl (by decide) rfl wc_X7_holdsNothing wl_X11_119 wi_X7 wm_X7_holdsNothing wv_X7_holdsNothing (by decide +kernel) (hRm 2 (by decide)) (by decide +kernel) rfl) (
    okc (ok_ifeq (off := 5) X (by decide +kernel) (by decide) rfl) (
    okc (ok_iconst (n := 0) X (by decide +kernel) rfl rfl) (
    okc (ok_iret hret (by decide +kernel)) (
    okc (ok_aload_n (j := 0) X (by decide +kernel) rfl rfl) (
    okc (ok_getR (ci := 11) (kf := 9) (idx := 81) (C := RX11) (T := TX11) (N := 15) X rfl (by decide) inX11 (by decide) wf_X11_81 (fun _ _ _ => rfl) (by decide +kernel) rfl) (
    okc (ok_iload_n (j := 1) X (by decide +kernel) rfl rfl) (
    okc (ok_callV (ci := 7) (C := RX7) (T := TX7) (N := 4) (Y := (yX7_holdsBytes, cX7_holdsBytes, 2, (some .boolean))) X hcal opsS_n md_X7_holdsBytes rfl (by decide) rfl wc_X7_holdsBytes wl_X11_122 wi_X7 wm_X7_holdsBytes wv_X7_holdsBytes (by decide +kernel) (hRm 2 (by decide)) (by decide +kernel) rfl) (
    okc (ok_ifne (off := 6) X (by decide +kernel) (by decide) rfl) (
    okc (ok_bipush (n := -12) X (by decide +kernel) rfl rfl) (
    okc (ok_iret hret (by decide +kernel)) (
    okc (ok_iconst (n := 0) X (by decide +kernel) rfl rfl) (
    okc (ok_istore X (by decide +kernel) rfl) (
    okc (ok_iload X (by decide +kernel) rfl) (
    okc (ok_iload_n (j := 3) X (by decide +kernel) rfl rfl) (
    okc (ok_cge (off := 41) X (by decide +kernel) (by decide) rfl) (
    okc (ok_aload_n (j := 0) X (by decide +kernel) rfl rfl) (
    okc (ok_getR (ci := 11) (kf := 9) (idx := 81) (C := RX11) (T := TX11) (N := 15) X rfl (by decide) inX11 (by decide) wf_X11_81 (fun _ _ _ => rfl) (by decide +kernel) rfl) (
    okc (ok_iload_n (j := 1) X (by decide +kernel) rfl rfl) (
    okc (ok_iload_n (j := 2) X (by decide +kernel) rfl rfl) (
    okc (ok_iconst (n := 3) X (by decide +kernel) rfl rfl) (
    okc (ok_iload X (by decide +kernel) rfl) (
    okc (ok_imul X (by decide +kernel) rfl) (
    okc (ok_iconst (n := 3) X (by decide +kernel) rfl rfl) (
    okc (ok_iadd X (by decide +kernel) rfl) (
    okc (ok_callV (ci := 7) (C := RX7) (T := TX7) (N := 4) (Y := (yX7_hasSpan, cX7_hasSpan, 4, (some .boolean))) X hcal opsS_n md_X7_hasSpan rfl (by decide) rfl wc_X7_hasSpan wl_X11_125 wi_X7 wm_X7_hasSpan wv_X7_hasSpan (by decide +kernel) (hRm 4 (by decide)) (by decide +kernel) rfl) (
    okc (ok_ifeq (off := 23) X (by decide +kernel) (by decide) rfl) (
    okc (ok_aload_n (j := 0) X (by decide +kernel) rfl rfl) (
    okc (ok_iload_n (j := 1) X (by decide +kernel) rfl rfl) (
    okc (ok_iload_n (j := 2) X (by decide +kernel) rfl rfl) (
    okc (ok_iconst (n := 3) X (by decide +kernel) rfl rfl) (
    okc (ok_iload X (by decide +kernel) rfl) (
    okc (ok_imul X (by decide +kernel) rfl) (
    okc (ok_iadd X (by decide +kernel) rfl) (
    okc (ok_callV (ci := 11) (C := RX11) (T := TX11) (N := 15) (Y := (yX11_newPersonFrom, cX11_newPersonFrom, 6, (some .int))) X hcal opsS_n md_X11_newPersonFrom rfl (by decide) rfl wc_X11_newPersonFrom wl_X11_128 wi_X11 wm_X11_newPersonFrom wv_X11_newPersonFrom (by decide +kernel) (hRm 6 (by decide)) (by decide +kernel) rfl) (
    okc (ok_iflt (off := 9) X (by decide +kernel) (by decide) rfl) (
    okc (ok_iinc (n := 1) X (by decide +kernel) rfl rfl) (
    okc (ok_goto (off := -41) X (by decide +kernel) (by decide)) (
    okc (ok_iload X (by decide +kernel) rfl) (
    okc (ok_iret hret (by decide +kernel)) (
    okn)))))))))))))))))))))))))))))))))))))))))))))))))))))))
noncomputable def es_X11_people  : List (Nat × En) := [(47, en_X7_has), (136, en_X11_within), (48, en_X7_holdsNothing), (49, en_X7_holdsBytes), (61, en_X7_hasSpan), (142, en_X11_newPersonFrom)]
noncomputable def ka_X11_people_53   (n : Nat) : Kn SS (Int32 × SS) := fun pc ls st s => bif Nat.beq pc 53 then (match ls, st with
    | [some y0, some (.int x1), some (.int x2), some (.int x3), some (.int x4)], [] => (gd (veq y0 (.ref 0)) (F_X11_people_53 n x1 x2 x3 x4 s))
    | _, _ => none) else (none)
set_option maxRecDepth 100000 in
set_option maxHeartbeats 4000000 in
theorem eq_X11_people_53    (n : Nat) (x1 : Int32) (x2 : Int32) (x3 : Int32) (x4 : Int32) (s : SS) : ex (tb_X11_people (calE (es_X11_people))) rI [53] (ka_X11_people_53   n) 57 53 [some (.ref 0), some (.int x1), some (.int x2), some (.int x3), some (.int x4)] [] s = F_X11_people_53   (n + 1) x1 x2 x3 x4 s := by
  rfl
set_option maxRecDepth 100000 in
set_option maxHeartbeats 4000000 in
theorem gd_X11_people_53 {ad0 : Nat → Nat} {G : Gm} {A : Nat → Prop} {p : Program} {l : Launch} {e : Env} {R : Room} {s0 : State} {m : MethodId} {args : Array Value} {below : List Frame} {meth : Method} {c : Code} {Q : State → Prop} {r : (Int32 × SS)}   (hT : ∀ q ∈ tb_X11_people (calE (es_X11_people)), OKi G A 5 113 6344 ad0 p l e R s0 m args below meth c Q opsS rI r q.1 q.2)   : ∀ (n : Nat) (x1 : Int32) (x2 : Int32) (x3 : Int32) (x4 : Int32) (s : SS), F_X11_people_53   n x1 x2 x3 x4 s = some r → Gd G A 5 113 6344 ad0 p l e R s0 m args below meth c Q opsS 53 [some (.ref 0), some (.int x1), some (.int x2), some (.int x3), some (.int x4)] [] s := by
  intro n
  induction n with
  | zero =>
    intro x1 x2 x3 x4 s hh
    exact absurd (show (none : Option (Int32 × SS)) = some r from hh) (by simp)
  | succ n ih =>
    intro x1 x2 x3 x4 s hh
    rw [← eq_X11_people_53    n x1 x2 x3 x4 s] at hh
    refine ex_good hT (fun pc' ls' st' x' hh => ?_) 57 53 _ [] s hh
    unfold ka_X11_people_53 at hh
    cases hb : Nat.beq pc' 53 with
    | true =>
      rw [hb] at hh
      have e9 := beq1 hb
      subst e9
      simp only [cond_true] at hh
      split at hh
      · obtain ⟨g0, hh1⟩ := gd_some hh
        have e0 := veq_of g0
        subst e0
        exact Gd.wk (ih _ _ _ _ _ hh1) (Lle.eq (Lle.eq (Lle.eq (Lle.eq (Lle.eq Lle.nil)))))
      · cases hh
    | false =>
      rw [hb] at hh
      simp only [cond_false] at hh
      cases hh

noncomputable def ka_X11_people  : Kn SS (Int32 × SS) := fun pc ls st s => bif Nat.beq pc 53 then (match ls, st with
    | [some y0, some (.int x1), some (.int x2), some (.int x3), some (.int x4)], [] => (gd (veq y0 (.ref 0)) (F_X11_people_53 fuel0 x1 x2 x3 x4 s))
    | _, _ => none) else (none)
set_option maxRecDepth 100000 in
set_option maxHeartbeats 4000000 in
theorem eq_X11_people   (a0 : Int32) (a1 : Int32) (a2 : Int32) (s : SS) : ex (tb_X11_people (calE (es_X11_people))) rI [53] (ka_X11_people ) 57 0 [some (.ref 0), some (.int a0), some (.int a1), some (.int a2), none] [] s = f_X11_people a0 a1 a2 s := by
  rfl
set_option maxRecDepth 100000 in
set_option maxHeartbeats 4000000 in
theorem run_X11_people {l : Launch} {G : Gm}   (a0 : Int32) (a1 : Int32) (a2 : Int32) (s : SS) (q : (Int32 × SS)) (h : f_X11_people a0 a1 a2 s = some q) (D' : Nat) (hD : 5 ≤ D') : RunsM l G (D' + 1) (md 103) (embS s) [.ref 0, .int a0, .int a1, .int a2] (some (.int q.1)) (embS q.2) := by
  rw [md_X11_people]
  refine runs_I (plainFor_of_name (by decide +kernel)) (Nat.le_of_ble_eq_true rfl) rfl ?_
  intro A p e R s0 m args below meth c Q ad0 hR X hret
  have X : Cx G A RX11 cX11_people 5 p s0 m args c := X
  have hT := tk_X11_people X (calE_ok (es := es_X11_people) (enc (en_X7_has_ok _ (by omega)) (enc (en_X11_within_ok _ (by omega)) (enc (en_X7_holdsNothing_ok _ (by omega)) (enc (en_X7_holdsBytes_ok _ (by omega)) (enc (en_X7_hasSpan_ok _ (by omega)) (enc (en_X11_newPersonFrom_ok _ (by omega)) (enn)))))))) (rmD rfl hR) hret
  rw [← eq_X11_people   a0 a1 a2 s] at h
  refine ex_good hT (fun pc' ls' st' x' hh => ?_) 57 0 _ [] s h
  unfold ka_X11_people at hh
  cases hb : Nat.beq pc' 53 with
  | true =>
    rw [hb] at hh
    have e9 := beq1 hb
    subst e9
    simp only [cond_true] at hh
    split at hh
    · obtain ⟨g0, hh1⟩ := gd_some hh
      have e0 := veq_of g0
      subst e0
      exact Gd.wk (gd_X11_people_53 hT  _ _ _ _ _ _ hh1) (Lle.eq (Lle.eq (Lle.eq (Lle.eq (Lle.eq Lle.nil)))))
    · cases hh
  | false =>
    rw [hb] at hh
    simp only [cond_false] at hh
    cases hh

noncomputable def en_X11_people  : En := fun _ av s k => match av with
  | [.ref r0, .int a0, .int a1, .int a2] => (gd (Nat.beq r0 0) (bI (f_X11_people a0 a1 a2 s) k))
  | _ => none
set_option maxRecDepth 100000 in
set_option maxHeartbeats 4000000 in
theorem en_X11_people_ok {l : Launch} {G : Gm} (D : Nat) (hD : 6 ≤ D) : enOK l G D 103 en_X11_people := by
  intro ρ av x k r h
  unfold en_X11_people at h
  split at h
  · obtain ⟨g0, h⟩ := gd_some h
    obtain ⟨q, h1, h2⟩ := bind_of h
    have e0 := beq1 g0
    subst e0
    obtain ⟨D', rfl⟩ : ∃ D', D = D' + 1 := ⟨D - 1, by omega⟩
    exact ⟨_, _, h2, run_X11_people  _ _ _ _ _ h1 D' (by omega)⟩
  · cases h

/-! HatRank mend -/
noncomputable def tb_X11_mend (cal : Cal SS) : List (Nat × Ins SS) := [(0, e_iload 2 1), (1, e_iconst (2) 2), (2, e_cne 10 5), (5, e_iconst (6) 7), (7, e_goto 12), (10, e_iconst (9) 12), (12, e_istore 4 14), (14, e_aload 0 15), (15, e_getR opsS 11 0 18), (18, e_iload 2 19), (19, e_iload 1 20), (20, e_callV opsS cal 84 2 9 23), (23, e_ifeq 36 26), (26, e_iload 3 27), (27, e_iconst (0) 28), (28, e_iload 4 30), (30, e_callS cal 136 3 33), (33, e_ifne 38 36), (36, e_iconst (-1) 37), (37, e_iret), (38, e_aload 0 39), (39, e_getR opsS 11 0 42), (42, e_iload 2 43), (43, e_iload 1 44), (44, e_iload 3 45), (45, e_callV opsS cal 85 3 9 48), (48, e_istore 5 50), (50, e_iload 5 52), (52, e_iload 3 53), (53, e_ceq 68 56), (56, e_aload 0 57), (57, e_getR opsS 11 7 60), (60, e_iload 2 61), (61, e_iload 1 62), (62, e_iload 5 64), (64, e_iload 3 65), (65, e_callV opsS cal 13 4 1 68), (68, e_iload 5 70), (70, e_iret)]
set_option maxRecDepth 100000 in
set_option maxHeartbeats 4000000 in
theorem tk_X11_mend {ad0 : Nat → Nat} {G : Gm} {A : Nat → Prop} {p : Program} {l : Launch} {e : Env} {R : Room} {s0 : State} {m : MethodId} {args : Array Value} {below : List Frame} {meth : Method} {c : Code} {Q : State → Prop} {ρ : Type} {ret : Option Value → SS → Option ρ} {r : ρ} (X : Cx G A RX11 cX11_mend 6 p s0 m args c) {D' : Nat} {cal : Cal SS} (hcal : calOK l G opsS D' cal) (hRm : ∀ k, k ≤ 21 → D' + 1 ≤ R.frames ∧ 8 + (k + 11) + 40 * D' ≤ R.locals) (hret : RetK G A cX11_mend 113 6344 ad0 p l e R s0 m args below meth c Q opsS ret r .ireturn okI) : ∀ q ∈ tb_X11_mend cal, OKi G A 6 113 6344 ad0 p l e R s0 m args below meth c Q opsS ret r q.1 q.2 :=
    okc (ok_iload_n (j := 2) X (by decide +kernel) rfl rfl) (
    okc (ok_iconst (n := 2) X (by decide +kernel) rfl rfl) (
    okc (ok_cne (off := 8) X (by decide +kernel) (by decide) rfl) (
    okc (ok_bipush (n := 6) X (by decide +kernel) rfl rfl) (
    okc (ok_goto (off := 5) X (by decide +kernel) (by decide)) (
    okc (ok_bipush (n := 9) X (by decide +kernel) rfl rfl) (
    okc (ok_istore X (by decide +kernel) rfl) (
    okc (ok_aload_n (j := 0) X (by decide +kernel) rfl rfl) (
    okc (ok_getR (ci := 11) (kf := 0) (idx := 10) (C := RX11) (T := TX11) (N := 15) X rfl (by decide) inX11 (by decide) wf_X11_10 (fun _ _ _ => rfl) (by decide +kernel) rfl) (
    okc (ok_iload_n (j := 2) X (by decide +kernel) rfl rfl) (
    okc (ok_iload_n (j := 1) X (by decide +kernel) rfl rfl) (
    okc (ok_callV (ci := 9) (C := RX9) (T := TX9) (N := 8) (Y := (yX9_hasSetting, cX9_hasSetting, 4, (some .boolean))) X hcal opsS_n md_X9_hasSetting rfl (by decide) rfl wc_X9_hasSetting wl_X11_131 wi_X9 wm_X9_hasSetting wv_X9_hasSetting (by decide +kernel) (hRm 4 (by decide)) (by decide +kernel) rfl) (
    okc (ok_ifeq (off := 13) X (by decide +kernel) (by decide) rfl) (
    okc (ok_iload_n (j := 3) X (by decide +kernel) rfl rfl) (
    okc (ok_iconst (n := 0) X (by decide +kernel) rfl rfl) (
    okc (ok_iload X (by decide +kernel) rfl) (
    okc (ok_callS (Y := (yX11_within, cX11_within, 3, (some .boolean))) X hcal opsS_n md_X11_within wc_X11_within wl_X11_92 wi_X11 ws_X11_within (by decide +kernel) (hRm 3 (by decide)) (by decide +kernel) rfl) (
    okc (ok_ifne (off := 5) X (by decide +kernel) (by decide) rfl) (
    okc (ok_iconst (n := -1) X (by decide +kernel) rfl rfl) (
    okc (ok_iret hret (by decide +kernel)) (
    okc (ok_aload_n (j := 0) X (by decide +kernel) rfl rfl) (
    okc (ok_getR (ci := 11) (kf := 0) (idx := 10) (C := RX11) (T := TX11) (N := 15) X rfl (by decide) inX11 (by decide) wf_X11_10 (fun _ _ _ => rfl) (by decide +kernel) rfl) (
    okc (ok_iload_n (j := 2) X (by decide +kernel) rfl rfl) (
    okc (ok_iload_n (j := 1) X (by decide +kernel) rfl rfl) (
    okc (ok_iload_n (j := 3) X (by decide +kernel) rfl rfl) (
    okc (ok_callV (ci := 9) (C := RX9) (T := TX9) (N := 8) (Y := (yX9_exchange, cX9_exchange, 6, (some .int))) X hcal opsS_n md_X9_exchange rfl (by decide) rfl wc_X9_exchange wl_X11_134 wi_X9 wm_X9_exchange wv_X9_exchange (by decide +kernel) (hRm 6 (by decide)) (by decide +kernel) rfl) (
    okc (ok_istore X (by decide +kernel) rfl) (
    okc (ok_iload X (by decide +kernel) rfl) (
    okc (ok_iload_n (j := 3) X (by decide +kernel) rfl rfl) (
    okc (ok_ceq (off := 15) X (by decide +kernel) (by decide) rfl) (
    okc (ok_aload_n (j := 0) X (by decide +kernel) rfl rfl) (
    okc (ok_getR (ci := 11) (kf := 7) (idx := 67) (C := RX11) (T := TX11) (N := 15) X rfl (by decide) inX11 (by decide) wf_X11_67 (fun _ _ _ => rfl) (by decide +kernel) rfl) (
    okc (ok_iload_n (j := 2) X (by decide +kernel) rfl rfl) (
    okc (ok_iload_n (j := 1) X (by decide +kernel) rfl rfl) (
    okc (ok_iload X (by decide +kernel) rfl) (
    okc (ok_iload_n (j := 3) X (by decide +kernel) rfl rfl) (
    okc (ok_callV (ci := 1) (C := RX1) (T := TX1) (N := 6) (Y := (yX1_note, cX1_note, 5, none)) X hcal opsS_n md_X1_note rfl (by decide) rfl wc_X1_note wl_X11_137 wi_X1 wm_X1_note wv_X1_note (by decide +kernel) (hRm 5 (by decide)) (by decide +kernel) rfl) (
    okc (ok_iload X (by decide +kernel) rfl) (
    okc (ok_iret hret (by decide +kernel)) (
    okn)))))))))))))))))))))))))))))))))))))))
noncomputable def es_X11_mend  : List (Nat × En) := [(84, en_X9_hasSetting), (136, en_X11_within), (85, en_X9_exchange), (13, en_X1_note)]
set_option maxRecDepth 100000 in
set_option maxHeartbeats 4000000 in
theorem eq_X11_mend   (a0 : Int32) (a1 : Int32) (a2 : Int32) (s : SS) : ex (tb_X11_mend (calE (es_X11_mend))) rI [] (fun _ _ _ _ => none) 41 0 [some (.ref 0), some (.int a0), some (.int a1), some (.int a2), none, none] [] s = f_X11_mend a0 a1 a2 s := by
  rfl
set_option maxRecDepth 100000 in
set_option maxHeartbeats 4000000 in
theorem run_X11_mend {l : Launch} {G : Gm}   (a0 : Int32) (a1 : Int32) (a2 : Int32) (s : SS) (q : (Int32 × SS)) (h : f_X11_mend a0 a1 a2 s = some q) (D' : Nat) (hD : 2 ≤ D') : RunsM l G (D' + 1) (md 104) (embS s) [.ref 0, .int a0, .int a1, .int a2] (some (.int q.1)) (embS q.2) := by
  rw [md_X11_mend]
  refine runs_I (plainFor_of_name (by decide +kernel)) (Nat.le_of_ble_eq_true rfl) rfl ?_
  intro A p e R s0 m args below meth c Q ad0 hR X hret
  have X : Cx G A RX11 cX11_mend 6 p s0 m args c := X
  have hT := tk_X11_mend X (calE_ok (es := es_X11_mend) (enc (en_X9_hasSetting_ok _ (by omega)) (enc (en_X11_within_ok _ (by omega)) (enc (en_X9_exchange_ok _ (by omega)) (enc (en_X1_note_ok _ (by omega)) (enn)))))) (rmD rfl hR) hret
  rw [← eq_X11_mend   a0 a1 a2 s] at h
  refine ex_good hT (fun pc' ls' st' x' hh => ?_) 41 0 _ [] s h
  cases hh

noncomputable def en_X11_mend  : En := fun _ av s k => match av with
  | [.ref r0, .int a0, .int a1, .int a2] => (gd (Nat.beq r0 0) (bI (f_X11_mend a0 a1 a2 s) k))
  | _ => none
set_option maxRecDepth 100000 in
set_option maxHeartbeats 4000000 in
theorem en_X11_mend_ok {l : Launch} {G : Gm} (D : Nat) (hD : 3 ≤ D) : enOK l G D 104 en_X11_mend := by
  intro ρ av x k r h
  unfold en_X11_mend at h
  split at h
  · obtain ⟨g0, h⟩ := gd_some h
    obtain ⟨q, h1, h2⟩ := bind_of h
    have e0 := beq1 g0
    subst e0
    obtain ⟨D', rfl⟩ : ∃ D', D = D' + 1 := ⟨D - 1, by omega⟩
    exact ⟨_, _, h2, run_X11_mend  _ _ _ _ _ h1 D' (by omega)⟩
  · cases h

/-! HatRank ofPlace -/
noncomputable def tb_X11_ofPlace (cal : Cal SS) : List (Nat × Ins SS) := [(0, e_aload 0 1), (1, e_getR opsS 11 0 4), (4, e_iload 1 5), (5, e_callV opsS cal 78 1 9 8), (8, e_ifne 13 11), (11, e_iconst (-1) 12), (12, e_iret), (13, e_iload 2 14), (14, e_sw [(10, 44), (11, 54), (12, 64), (13, 74)] 107), (44, e_aload 0 45), (45, e_getR opsS 11 0 48), (48, e_getR opsS 9 4 51), (51, e_iload 1 52), (52, e_ald opsS 100 53), (53, e_iret), (54, e_aload 0 55), (55, e_getR opsS 11 0 58), (58, e_getR opsS 9 5 61), (61, e_iload 1 62), (62, e_ald opsS 100 63), (63, e_iret), (64, e_aload 0 65), (65, e_getR opsS 11 1 68), (68, e_getR opsS 2 2 71), (71, e_iload 1 72), (72, e_ald opsS 100 73), (73, e_iret), (74, e_aload 0 75), (75, e_getR opsS 11 1 78), (78, e_getI opsS 2 3 81), (81, e_iconst (24) 83), (83, e_cge 105 86), (86, e_aload 0 87), (87, e_getR opsS 11 0 90), (90, e_iload 1 91), (91, e_aload 0 92), (92, e_getR opsS 11 1 95), (95, e_getI opsS 2 3 98), (98, e_iconst (0) 99), (99, e_callV opsS cal 83 3 9 102), (102, e_goto 106), (105, e_iconst (-1) 106), (106, e_iret), (107, e_iconst (-1) 108), (108, e_iret)]
set_option maxRecDepth 100000 in
set_option maxHeartbeats 4000000 in
theorem tk_X11_ofPlace {ad0 : Nat → Nat} {G : Gm} {A : Nat → Prop} {p : Program} {l : Launch} {e : Env} {R : Room} {s0 : State} {m : MethodId} {args : Array Value} {below : List Frame} {meth : Method} {c : Code} {Q : State → Prop} {ρ : Type} {ret : Option Value → SS → Option ρ} {r : ρ} (X : Cx G A RX11 cX11_ofPlace 3 p s0 m args c) {D' : Nat} {cal : Cal SS} (hcal : calOK l G opsS D' cal) (hRm : ∀ k, k ≤ 21 → D' + 1 ≤ R.frames ∧ 8 + (k + 11) + 40 * D' ≤ R.locals) (hret : RetK G A cX11_ofPlace 113 6344 ad0 p l e R s0 m args below meth c Q opsS ret r .ireturn okI) : ∀ q ∈ tb_X11_ofPlace cal, OKi G A 3 113 6344 ad0 p l e R s0 m args below meth c Q opsS ret r q.1 q.2 :=
    okc (ok_aload_n (j := 0) X (by decide +kernel) rfl rfl) (
    okc (ok_getR (ci := 11) (kf := 0) (idx := 10) (C := RX11) (T := TX11) (N := 15) X rfl (by decide) inX11 (by decide) wf_X11_10 (fun _ _ _ => rfl) (by decide +kernel) rfl) (
    okc (ok_iload_n (j := 1) X (by decide +kernel) rfl rfl) (
    okc (ok_callV (ci := 9) (C := RX9) (T := TX9) (N := 8) (Y := (yX9_hasPlace, cX9_hasPlace, 2, (some .boolean))) X hcal opsS_n md_X9_hasPlace rfl (by decide) rfl wc_X9_hasPlace wl_X11_100 wi_X9 wm_X9_hasPlace wv_X9_hasPlace (by decide +kernel) (hRm 2 (by decide)) (by decide +kernel) rfl) (
    okc (ok_ifne (off := 5) X (by decide +kernel) (by decide) rfl) (
    okc (ok_iconst (n := -1) X (by decide +kernel) rfl rfl) (
    okc (ok_iret hret (by decide +kernel)) (
    okc (ok_iload_n (j := 2) X (by decide +kernel) rfl rfl) (
    okc (ok_tsw (dflt := 93) (lo := 10) (hi := 13) (offs := #[30, 40, 50, 60]) (len := 30) X (by decide +kernel) (tsw_out 14 93 10 13 #[30, 40, 50, 60] (by decide +kernel)) (tsw_in 14 93 10 13 #[30, 40, 50, 60] (by decide +kernel))) (
    okc (ok_aload_n (j := 0) X (by decide +kernel) rfl rfl) (
    okc (ok_getR (ci := 11) (kf := 0) (idx := 10) (C := RX11) (T := TX11) (N := 15) X rfl (by decide) inX11 (by decide) wf_X11_10 (fun _ _ _ => rfl) (by decide +kernel) rfl) (
    okc (ok_getR (ci := 9) (kf := 4) (idx := 343) (C := RX9) (T := TX9) (N := 8) X rfl (by decide) inX9 (by decide) wf_X11_343 (fun _ _ _ => rfl) (by decide +kernel) rfl) (
    okc (ok_iload_n (j := 1) X (by decide +kernel) rfl rfl) (
    okc (ok_iald X (by decide +kernel) rfl) (
    okc (ok_iret hret (by decide +kernel)) (
    okc (ok_aload_n (j := 0) X (by decide +kernel) rfl rfl) (
    okc (ok_getR (ci := 11) (kf := 0) (idx := 10) (C := RX11) (T := TX11) (N := 15) X rfl (by decide) inX11 (by decide) wf_X11_10 (fun _ _ _ => rfl) (by decide +kernel) rfl) (
    okc (ok_getR (ci := 9) (kf := 5) (idx := 346) (C := RX9) (T := TX9) (N := 8) X rfl (by decide) inX9 (by decide) wf_X11_346 (fun _ _ _ => rfl) (by decide +kernel) rfl) (
    okc (ok_iload_n (j := 1) X (by decide +kernel) rfl rfl) (
    okc (ok_iald X (by decide +kernel) rfl) (
    okc (ok_iret hret (by decide +kernel)) (
    okc (ok_aload_n (j := 0) X (by decide +kernel) rfl rfl) (
    okc (ok_getR (ci := 11) (kf := 1) (idx := 19) (C := RX11) (T := TX11) (N := 15) X rfl (by decide) inX11 (by decide) wf_X11_19 (fun _ _ _ => rfl) (by decide +kernel) rfl) (
    okc (ok_getR (ci := 2) (kf := 2) (idx := 175) (C := RX2) (T := TX2) (N := 4) X rfl (by decide) inX2 (by decide) wf_X11_175 (fun _ _ _ => rfl) (by decide +kernel) rfl) (
    okc (ok_iload_n (j := 1) X (by decide +kernel) rfl rfl) (
    okc (ok_iald X (by decide +kernel) rfl) (
    okc (ok_iret hret (by decide +kernel)) (
    okc (ok_aload_n (j := 0) X (by decide +kernel) rfl rfl) (
    okc (ok_getR (ci := 11) (kf := 1) (idx := 19) (C := RX11) (T := TX11) (N := 15) X rfl (by decide) inX11 (by decide) wf_X11_19 (fun _ _ _ => rfl) (by decide +kernel) rfl) (
    okc (ok_getI (ci := 2) (kf := 3) (idx := 194) (C := RX2) (T := TX2) (N := 4) X rfl (by decide) inX2 (by decide) wf_X11_194 (fun _ _ _ => rfl) (by decide +kernel) rfl) (
    okc (ok_bipush (n := 24) X (by decide +kernel) rfl rfl) (
    okc (ok_cge (off := 22) X (by decide +kernel) (by decide) rfl) (
    okc (ok_aload_n (j := 0) X (by decide +kernel) rfl rfl) (
    okc (ok_getR (ci := 11) (kf := 0) (idx := 10) (C := RX11) (T := TX11) (N := 15) X rfl (by decide) inX11 (by decide) wf_X11_10 (fun _ _ _ => rfl) (by decide +kernel) rfl) (
    okc (ok_iload_n (j := 1) X (by decide +kernel) rfl rfl) (
    okc (ok_aload_n (j := 0) X (by decide +kernel) rfl rfl) (
    okc (ok_getR (ci := 11) (kf := 1) (idx := 19) (C := RX11) (T := TX11) (N := 15) X rfl (by decide) inX11 (by decide) wf_X11_19 (fun _ _ _ => rfl) (by decide +kernel) rfl) (
    okc (ok_getI (ci := 2) (kf := 3) (idx := 194) (C := RX2) (T := TX2) (N := 4) X rfl (by decide) inX2 (by decide) wf_X11_194 (fun _ _ _ => rfl) (by decide +kernel) rfl) (
    okc (ok_iconst (n := 0) X (by decide +kernel) rfl rfl) (
    okc (ok_callV (ci := 9) (C := RX9) (T := TX9) (N := 8) (Y := (yX9_gust, cX9_gust, 4, (some .int))) X hcal opsS_n md_X9_gust rfl (by decide) rfl wc_X9_gust wl_X11_349 wi_X9 wm_X9_gust wv_X9_gust (by decide +kernel) (hRm 4 (by decide)) (by decide +kernel) rfl) (
    okc (ok_goto (off := 4) X (by decide +kernel) (by decide)) (
    okc (ok_iconst (n := -1) X (by decide +kernel) rfl rfl) (
    okc (ok_iret hret (by decide +kernel)) (
    okc (ok_iconst (n := -1) X (by decide +kernel) rfl rfl) (
    okc (ok_iret hret (by decide +kernel)) (
    okn)))))))))))))))))))))))))))))))))))))))))))))
noncomputable def es_X11_ofPlace  : List (Nat × En) := [(78, en_X9_hasPlace), (83, en_X9_gust)]
set_option maxRecDepth 100000 in
set_option maxHeartbeats 4000000 in
theorem eq_X11_ofPlace   (a0 : Int32) (a1 : Int32) (s : SS) : ex (tb_X11_ofPlace (calE (es_X11_ofPlace))) rI [] (fun _ _ _ _ => none) 47 0 [some (.ref 0), some (.int a0), some (.int a1)] [] s = f_X11_ofPlace a0 a1 s := by
  rfl
set_option maxRecDepth 100000 in
set_option maxHeartbeats 4000000 in
theorem run_X11_ofPlace {l : Launch} {G : Gm}   (a0 : Int32) (a1 : Int32) (s : SS) (q : (Int32 × SS)) (h : f_X11_ofPlace a0 a1 s = some q) (D' : Nat) (hD : 2 ≤ D') : RunsM l G (D' + 1) (md 144) (embS s) [.ref 0, .int a0, .int a1] (some (.int q.1)) (embS q.2) := by
  rw [md_X11_ofPlace]
  refine runs_I (plainFor_of_name (by decide +kernel)) (Nat.le_of_ble_eq_true rfl) rfl ?_
  intro A p e R s0 m args below meth c Q ad0 hR X hret
  have X : Cx G A RX11 cX11_ofPlace 3 p s0 m args c := X
  have hT := tk_X11_ofPlace X (calE_ok (es := es_X11_ofPlace) (enc (en_X9_hasPlace_ok _ (by omega)) (enc (en_X9_gust_ok _ (by omega)) (enn)))) (rmD rfl hR) hret
  rw [← eq_X11_ofPlace   a0 a1 s] at h
  refine ex_good hT (fun pc' ls' st' x' hh => ?_) 47 0 _ [] s h
  cases hh

noncomputable def en_X11_ofPlace  : En := fun _ av s k => match av with
  | [.ref r0, .int a0, .int a1] => (gd (Nat.beq r0 0) (bI (f_X11_ofPlace a0 a1 s) k))
  | _ => none
set_option maxRecDepth 100000 in
set_option maxHeartbeats 4000000 in
theorem en_X11_ofPlace_ok {l : Launch} {G : Gm} (D : Nat) (hD : 3 ≤ D) : enOK l G D 144 en_X11_ofPlace := by
  intro ρ av x k r h
  unfold en_X11_ofPlace at h
  split at h
  · obtain ⟨g0, h⟩ := gd_some h
    obtain ⟨q, h1, h2⟩ := bind_of h
    have e0 := beq1 g0
    subst e0
    obtain ⟨D', rfl⟩ : ∃ D', D = D' + 1 := ⟨D - 1, by omega⟩
    exact ⟨_, _, h2, run_X11_ofPlace  _ _ _ _ h1 D' (by omega)⟩
  · cases h

/-! HatRank ofPerson -/
noncomputable def tb_X11_ofPerson (cal : Cal SS) : List (Nat × Ins SS) := [(0, e_aload 0 1), (1, e_getR opsS 11 0 4), (4, e_iload 1 5), (5, e_callV opsS cal 77 1 9 8), (8, e_ifne 13 11), (11, e_iconst (-1) 12), (12, e_iret), (13, e_iload 2 14), (14, e_sw [(0, 48), (1, 58), (2, 68), (3, 78), (4, 91)] 145), (48, e_aload 0 49), (49, e_getR opsS 11 1 52), (52, e_getR opsS 2 0 55), (55, e_iload 1 56), (56, e_ald opsS 100 57), (57, e_iret), (58, e_aload 0 59), (59, e_getR opsS 11 0 62), (62, e_getR opsS 9 3 65), (65, e_iload 1 66), (66, e_ald opsS 100 67), (67, e_iret), (68, e_aload 0 69), (69, e_getR opsS 11 1 72), (72, e_getR opsS 2 1 75), (75, e_iload 1 76), (76, e_ald opsS 100 77), (77, e_iret), (78, e_aload 0 79), (79, e_getR opsS 11 0 82), (82, e_aload 0 83), (83, e_getR opsS 11 1 86), (86, e_iload 1 87), (87, e_callV opsS cal 86 2 9 90), (90, e_iret), (91, e_aload 0 92), (92, e_getR opsS 11 1 95), (95, e_getI opsS 2 3 98), (98, e_iconst (24) 100), (100, e_cge 143 103), (103, e_aload 0 104), (104, e_getR opsS 11 3 107), (107, e_aload 0 108), (108, e_getR opsS 11 1 111), (111, e_iload 1 112), (112, e_aload 0 113), (113, e_getR opsS 11 1 116), (116, e_getR opsS 2 1 119), (119, e_iload 1 120), (120, e_ald opsS 100 121), (121, e_aload 0 122), (122, e_getR opsS 11 1 125), (125, e_getI opsS 2 3 128), (128, e_aload 0 129), (129, e_getR opsS 11 0 132), (132, e_getR opsS 9 3 135), (135, e_iload 1 136), (136, e_ald opsS 100 137), (137, e_callV opsS cal 33 5 4 140), (140, e_goto 144), (143, e_iconst (-1) 144), (144, e_iret), (145, e_iconst (-1) 146), (146, e_iret)]
set_option maxRecDepth 100000 in
set_option maxHeartbeats 4000000 in
theorem tk_X11_ofPerson {ad0 : Nat → Nat} {G : Gm} {A : Nat → Prop} {p : Program} {l : Launch} {e : Env} {R : Room} {s0 : State} {m : MethodId} {args : Array Value} {below : List Frame} {meth : Method} {c : Code} {Q : State → Prop} {ρ : Type} {ret : Option Value → SS → Option ρ} {r : ρ} (X : Cx G A RX11 cX11_ofPerson 3 p s0 m args c) {D' : Nat} {cal : Cal SS} (hcal : calOK l G opsS D' cal) (hRm : ∀ k, k ≤ 21 → D' + 1 ≤ R.frames ∧ 8 + (k + 11) + 40 * D' ≤ R.locals) (hret : RetK G A cX11_ofPerson 113 6344 ad0 p l e R s0 m args below meth c Q opsS ret r .ireturn okI) : ∀ q ∈ tb_X11_ofPerson cal, OKi G A 3 113 6344 ad0 p l e R s0 m args below meth c Q opsS ret r q.1 q.2 :=
    okc (ok_aload_n (j := 0) X (by decide +kernel) rfl rfl) (
    okc (ok_getR (ci := 11) (kf := 0) (idx := 10) (C := RX11) (T := TX11) (N := 15) X rfl (by decide) inX11 (by decide) wf_X11_10 (fun _ _ _ => rfl) (by decide +kernel) rfl) (
    okc (ok_iload_n (j := 1) X (by decide +kernel) rfl rfl) (
    okc (ok_callV (ci := 9) (C := RX9) (T := TX9) (N := 8) (Y := (yX9_hasPerson, cX9_hasPerson, 2, (some .boolean))) X hcal opsS_n md_X9_hasPerson rfl (by decide) rfl wc_X9_hasPerson wl_X11_169 wi_X9 wm_X9_hasPerson wv_X9_hasPerson (by decide +kernel) (hRm 2 (by decide)) (by decide +kernel) rfl) (
    okc (ok_ifne (off := 5) X (by decide +kernel) (by decide) rfl) (
    okc (ok_iconst (n := -1) X (by decide +kernel) rfl rfl) (
    okc (ok_iret hret (by decide +kernel)) (
    okc (ok_iload_n (j := 2) X (by decide +kernel) rfl rfl) (
    okc (ok_tsw (dflt := 131) (lo := 0) (hi := 4) (offs := #[34, 44, 54, 64, 77]) (len := 34) X (by decide +kernel) (tsw_out 14 131 0 4 #[34, 44, 54, 64, 77] (by decide +kernel)) (tsw_in 14 131 0 4 #[34, 44, 54, 64, 77] (by decide +kernel))) (
    okc (ok_aload_n (j := 0) X (by decide +kernel) rfl rfl) (
    okc (ok_getR (ci := 11) (kf := 1) (idx := 19) (C := RX11) (T := TX11) (N := 15) X rfl (by decide) inX11 (by decide) wf_X11_19 (fun _ _ _ => rfl) (by decide +kernel) rfl) (
    okc (ok_getR (ci := 2) (kf := 0) (idx := 237) (C := RX2) (T := TX2) (N := 4) X rfl (by decide) inX2 (by decide) wf_X11_237 (fun _ _ _ => rfl) (by decide +kernel) rfl) (
    okc (ok_iload_n (j := 1) X (by decide +kernel) rfl rfl) (
    okc (ok_iald X (by decide +kernel) rfl) (
    okc (ok_iret hret (by decide +kernel)) (
    okc (ok_aload_n (j := 0) X (by decide +kernel) rfl rfl) (
    okc (ok_getR (ci := 11) (kf := 0) (idx := 10) (C := RX11) (T := TX11) (N := 15) X rfl (by decide) inX11 (by decide) wf_X11_10 (fun _ _ _ => rfl) (by decide +kernel) rfl) (
    okc (ok_getR (ci := 9) (kf := 3) (idx := 336) (C := RX9) (T := TX9) (N := 8) X rfl (by decide) inX9 (by decide) wf_X11_336 (fun _ _ _ => rfl) (by decide +kernel) rfl) (
    okc (ok_iload_n (j := 1) X (by decide +kernel) rfl rfl) (
    okc (ok_iald X (by decide +kernel) rfl) (
    okc (ok_iret hret (by decide +kernel)) (
    okc (ok_aload_n (j := 0) X (by decide +kernel) rfl rfl) (
    okc (ok_getR (ci := 11) (kf := 1) (idx := 19) (C := RX11) (T := TX11) (N := 15) X rfl (by decide) inX11 (by decide) wf_X11_19 (fun _ _ _ => rfl) (by decide +kernel) rfl) (
    okc (ok_getR (ci := 2) (kf := 1) (idx := 172) (C := RX2) (T := TX2) (N := 4) X rfl (by decide) inX2 (by decide) wf_X11_172 (fun _ _ _ => rfl) (by decide +kernel) rfl) (
    okc (ok_iload_n (j := 1) X (by decide +kernel) rfl rfl) (
    okc (ok_iald X (by decide +kernel) rfl) (
    okc (ok_iret hret (by decide +kernel)) (
    okc (ok_aload_n (j := 0) X (by decide +kernel) rfl rfl) (
    okc (ok_getR (ci := 11) (kf := 0) (idx := 10) (C := RX11) (T := TX11) (N := 15) X rfl (by decide) inX11 (by decide) wf_X11_10 (fun _ _ _ => rfl) (by decide +kernel) rfl) (
    okc (ok_aload_n (j := 0) X (by decide +kernel) rfl rfl) (
    okc (ok_getR (ci := 11) (kf := 1) (idx := 19) (C := RX11) (T := TX11) (N := 15) X rfl (by decide) inX11 (by decide) wf_X11_19 (fun _ _ _ => rfl) (by decide +kernel) rfl) (
    okc (ok_iload_n (j := 1) X (by decide +kernel) rfl rfl) (
    okc (ok_callV (ci := 9) (C := RX9) (T := TX9) (N := 8) (Y := (yX9_rank, cX9_rank, 5, (some .int))) X hcal opsS_n md_X9_rank rfl (by decide) rfl wc_X9_rank wl_X11_339 wi_X9 wm_X9_rank wv_X9_rank (by decide +kernel) (hRm 5 (by decide)) (by decide +kernel) rfl) (
    okc (ok_iret hret (by decide +kernel)) (
    okc (ok_aload_n (j := 0) X (by decide +kernel) rfl rfl) (
    okc (ok_getR (ci := 11) (kf := 1) (idx := 19) (C := RX11) (T := TX11) (N := 15) X rfl (by decide) inX11 (by decide) wf_X11_19 (fun _ _ _ => rfl) (by decide +kernel) rfl) (
    okc (ok_getI (ci := 2) (kf := 3) (idx := 194) (C := RX2) (T := TX2) (N := 4) X rfl (by decide) inX2 (by decide) wf_X11_194 (fun _ _ _ => rfl) (by decide +kernel) rfl) (
    okc (ok_bipush (n := 24) X (by decide +kernel) rfl rfl) (
    okc (ok_cge (off := 43) X (by decide +kernel) (by decide) rfl) (
    okc (ok_aload_n (j := 0) X (by decide +kernel) rfl rfl) (
    okc (ok_getR (ci := 11) (kf := 3) (idx := 35) (C := RX11) (T := TX11) (N := 15) X rfl (by decide) inX11 (by decide) wf_X11_35 (fun _ _ _ => rfl) (by decide +kernel) rfl) (
    okc (ok_aload_n (j := 0) X (by decide +kernel) rfl rfl) (
    okc (ok_getR (ci := 11) (kf := 1) (idx := 19) (C := RX11) (T := TX11) (N := 15) X rfl (by decide) inX11 (by decide) wf_X11_19 (fun _ _ _ => rfl) (by decide +kernel) rfl) (
    okc (ok_iload_n (j := 1) X (by decide +kernel) rfl rfl) (
    okc (ok_aload_n (j := 0) X (by decide +kernel) rfl rfl) (
    okc (ok_getR (ci := 11) (kf := 1) (idx := 19) (C := RX11) (T := TX11) (N := 15) X rfl (by decide) inX11 (by decide) wf_X11_19 (fun _ _ _ => rfl) (by decide +kernel) rfl) (
    okc (ok_getR (ci := 2) (kf := 1) (idx := 172) (C := RX2) (T := TX2) (N := 4) X rfl (by decide) inX2 (by decide) wf_X11_172 (fun _ _ _ => rfl) (by decide +kernel) rfl) (
    okc (ok_iload_n (j := 1) X (by decide +kernel) rfl rfl) (
    okc (ok_iald X (by decide +kernel) rfl) (
    okc (ok_aload_n (j := 0) X (by decide +kernel) rfl rfl) (
    okc (ok_getR (ci := 11) (kf := 1) (idx := 19) (C := RX11) (T := TX11) (N := 15) X rfl (by decide) inX11 (by decide) wf_X11_19 (fun _ _ _ => rfl) (by decide +kernel) rfl) (
    okc (ok_getI (ci := 2) (kf := 3) (idx := 194) (C := RX2) (T := TX2) (N := 4) X rfl (by decide) inX2 (by decide) wf_X11_194 (fun _ _ _ => rfl) (by decide +kernel) rfl) (
    okc (ok_aload_n (j := 0) X (by decide +kernel) rfl rfl) (
    okc (ok_getR (ci := 11) (kf := 0) (idx := 10) (C := RX11) (T := TX11) (N := 15) X rfl (by decide) inX11 (by decide) wf_X11_10 (fun _ _ _ => rfl) (by decide +kernel) rfl) (
    okc (ok_getR (ci := 9) (kf := 3) (idx := 336) (C := RX9) (T := TX9) (N := 8) X rfl (by decide) inX9 (by decide) wf_X11_336 (fun _ _ _ => rfl) (by decide +kernel) rfl) (
    okc (ok_iload_n (j := 1) X (by decide +kernel) rfl rfl) (
    okc (ok_iald X (by decide +kernel) rfl) (
    okc (ok_callV (ci := 4) (C := RX4) (T := TX4) (N := 4) (Y := (yX4_number, cX4_number, 9, (some .int))) X hcal opsS_n md_X4_number rfl (by decide) rfl wc_X4_number wl_X11_229 wi_X4 wm_X4_number wv_X4_number (by decide +kernel) (hRm 9 (by decide)) (by decide +kernel) rfl) (
    okc (ok_goto (off := 4) X (by decide +kernel) (by decide)) (
    okc (ok_iconst (n := -1) X (by decide +kernel) rfl rfl) (
    okc (ok_iret hret (by decide +kernel)) (
    okc (ok_iconst (n := -1) X (by decide +kernel) rfl rfl) (
    okc (ok_iret hret (by decide +kernel)) (
    okn)))))))))))))))))))))))))))))))))))))))))))))))))))))))))))))))
noncomputable def es_X11_ofPerson  : List (Nat × En) := [(77, en_X9_hasPerson), (86, en_X9_rank), (33, en_X4_number)]
set_option maxRecDepth 100000 in
set_option maxHeartbeats 4000000 in
theorem eq_X11_ofPerson   (a0 : Int32) (a1 : Int32) (s : SS) : ex (tb_X11_ofPerson (calE (es_X11_ofPerson))) rI [] (fun _ _ _ _ => none) 65 0 [some (.ref 0), some (.int a0), some (.int a1)] [] s = f_X11_ofPerson a0 a1 s := by
  rfl
set_option maxRecDepth 100000 in
set_option maxHeartbeats 4000000 in
theorem run_X11_ofPerson {l : Launch} {G : Gm}   (a0 : Int32) (a1 : Int32) (s : SS) (q : (Int32 × SS)) (h : f_X11_ofPerson a0 a1 s = some q) (D' : Nat) (hD : 3 ≤ D') : RunsM l G (D' + 1) (md 143) (embS s) [.ref 0, .int a0, .int a1] (some (.int q.1)) (embS q.2) := by
  rw [md_X11_ofPerson]
  refine runs_I (plainFor_of_name (by decide +kernel)) (Nat.le_of_ble_eq_true rfl) rfl ?_
  intro A p e R s0 m args below meth c Q ad0 hR X hret
  have X : Cx G A RX11 cX11_ofPerson 3 p s0 m args c := X
  have hT := tk_X11_ofPerson X (calE_ok (es := es_X11_ofPerson) (enc (en_X9_hasPerson_ok _ (by omega)) (enc (en_X9_rank_ok _ (by omega)) (enc (en_X4_number_ok _ (by omega)) (enn))))) (rmD rfl hR) hret
  rw [← eq_X11_ofPerson   a0 a1 s] at h
  refine ex_good hT (fun pc' ls' st' x' hh => ?_) 65 0 _ [] s h
  cases hh

noncomputable def en_X11_ofPerson  : En := fun _ av s k => match av with
  | [.ref r0, .int a0, .int a1] => (gd (Nat.beq r0 0) (bI (f_X11_ofPerson a0 a1 s) k))
  | _ => none
set_option maxRecDepth 100000 in
set_option maxHeartbeats 4000000 in
theorem en_X11_ofPerson_ok {l : Launch} {G : Gm} (D : Nat) (hD : 4 ≤ D) : enOK l G D 143 en_X11_ofPerson := by
  intro ρ av x k r h
  unfold en_X11_ofPerson at h
  split at h
  · obtain ⟨g0, h⟩ := gd_some h
    obtain ⟨q, h1, h2⟩ := bind_of h
    have e0 := beq1 g0
    subst e0
    obtain ⟨D', rfl⟩ : ∃ D', D = D' + 1 := ⟨D - 1, by omega⟩
    exact ⟨_, _, h2, run_X11_ofPerson  _ _ _ _ h1 D' (by omega)⟩
  · cases h

/-! HatRank of -/
noncomputable def tb_X11_of (cal : Cal SS) : List (Nat × Ins SS) := [(0, e_iload 2 1), (1, e_iconst (20) 3), (3, e_clt 36 6), (6, e_iload 2 7), (7, e_iconst (20) 9), (9, e_cne 34 12), (12, e_iload 1 13), (13, e_iconst (0) 14), (14, e_iconst (23) 16), (16, e_callS cal 136 3 19), (19, e_ifeq 34 22), (22, e_aload 0 23), (23, e_getR opsS 11 0 26), (26, e_getR opsS 9 6 29), (29, e_iload 1 30), (30, e_ald opsS 100 31), (31, e_goto 35), (34, e_iconst (-1) 35), (35, e_iret), (36, e_iload 2 37), (37, e_iconst (10) 39), (39, e_clt 51 42), (42, e_aload 0 43), (43, e_iload 1 44), (44, e_iload 2 45), (45, e_callV opsS cal 144 2 11 48), (48, e_goto 57), (51, e_aload 0 52), (52, e_iload 1 53), (53, e_iload 2 54), (54, e_callV opsS cal 143 2 11 57), (57, e_iret)]
set_option maxRecDepth 100000 in
set_option maxHeartbeats 4000000 in
theorem tk_X11_of {ad0 : Nat → Nat} {G : Gm} {A : Nat → Prop} {p : Program} {l : Launch} {e : Env} {R : Room} {s0 : State} {m : MethodId} {args : Array Value} {below : List Frame} {meth : Method} {c : Code} {Q : State → Prop} {ρ : Type} {ret : Option Value → SS → Option ρ} {r : ρ} (X : Cx G A RX11 cX11_of 3 p s0 m args c) {D' : Nat} {cal : Cal SS} (hcal : calOK l G opsS D' cal) (hRm : ∀ k, k ≤ 21 → D' + 1 ≤ R.frames ∧ 8 + (k + 11) + 40 * D' ≤ R.locals) (hret : RetK G A cX11_of 113 6344 ad0 p l e R s0 m args below meth c Q opsS ret r .ireturn okI) : ∀ q ∈ tb_X11_of cal, OKi G A 3 113 6344 ad0 p l e R s0 m args below meth c Q opsS ret r q.1 q.2 :=
    okc (ok_iload_n (j := 2) X (by decide +kernel) rfl rfl) (
    okc (ok_bipush (n := 20) X (by decide +kernel) rfl rfl) (
    okc (ok_clt (off := 33) X (by decide +kernel) (by decide) rfl) (
    okc (ok_iload_n (j := 2) X (by decide +kernel) rfl rfl) (
    okc (ok_bipush (n := 20) X (by decide +kernel) rfl rfl) (
    okc (ok_cne (off := 25) X (by decide +kernel) (by decide) rfl) (
    okc (ok_iload_n (j := 1) X (by decide +kernel) rfl rfl) (
    okc (ok_iconst (n := 0) X (by decide +kernel) rfl rfl) (
    okc (ok_bipush (n := 23) X (by decide +kernel) rfl rfl) (
    okc (ok_callS (Y := (yX11_within, cX11_within, 3, (some .boolean))) X hcal opsS_n md_X11_within wc_X11_within wl_X11_92 wi_X11 ws_X11_within (by decide +kernel) (hRm 3 (by decide)) (by decide +kernel) rfl) (
    okc (ok_ifeq (off := 15) X (by decide +kernel) (by decide) rfl) (
    okc (ok_aload_n (j := 0) X (by decide +kernel) rfl rfl) (
    okc (ok_getR (ci := 11) (kf := 0) (idx := 10) (C := RX11) (T := TX11) (N := 15) X rfl (by decide) inX11 (by decide) wf_X11_10 (fun _ _ _ => rfl) (by decide +kernel) rfl) (
    okc (ok_getR (ci := 9) (kf := 6) (idx := 141) (C := RX9) (T := TX9) (N := 8) X rfl (by decide) inX9 (by decide) wf_X11_141 (fun _ _ _ => rfl) (by decide +kernel) rfl) (
    okc (ok_iload_n (j := 1) X (by decide +kernel) rfl rfl) (
    okc (ok_iald X (by decide +kernel) rfl) (
    okc (ok_goto (off := 4) X (by decide +kernel) (by decide)) (
    okc (ok_iconst (n := -1) X (by decide +kernel) rfl rfl) (
    okc (ok_iret hret (by decide +kernel)) (
    okc (ok_iload_n (j := 2) X (by decide +kernel) rfl rfl) (
    okc (ok_bipush (n := 10) X (by decide +kernel) rfl rfl) (
    okc (ok_clt (off := 12) X (by decide +kernel) (by decide) rfl) (
    okc (ok_aload_n (j := 0) X (by decide +kernel) rfl rfl) (
    okc (ok_iload_n (j := 1) X (by decide +kernel) rfl rfl) (
    okc (ok_iload_n (j := 2) X (by decide +kernel) rfl rfl) (
    okc (ok_callV (ci := 11) (C := RX11) (T := TX11) (N := 15) (Y := (yX11_ofPlace, cX11_ofPlace, 3, (some .int))) X hcal opsS_n md_X11_ofPlace rfl (by decide) rfl wc_X11_ofPlace wl_X11_144 wi_X11 wm_X11_ofPlace wv_X11_ofPlace (by decide +kernel) (hRm 3 (by decide)) (by decide +kernel) rfl) (
    okc (ok_goto (off := 9) X (by decide +kernel) (by decide)) (
    okc (ok_aload_n (j := 0) X (by decide +kernel) rfl rfl) (
    okc (ok_iload_n (j := 1) X (by decide +kernel) rfl rfl) (
    okc (ok_iload_n (j := 2) X (by decide +kernel) rfl rfl) (
    okc (ok_callV (ci := 11) (C := RX11) (T := TX11) (N := 15) (Y := (yX11_ofPerson, cX11_ofPerson, 3, (some .int))) X hcal opsS_n md_X11_ofPerson rfl (by decide) rfl wc_X11_ofPerson wl_X11_147 wi_X11 wm_X11_ofPerson wv_X11_ofPerson (by decide +kernel) (hRm 3 (by decide)) (by decide +kernel) rfl) (
    okc (ok_iret hret (by decide +kernel)) (
    okn))))))))))))))))))))))))))))))))
noncomputable def es_X11_of  : List (Nat × En) := [(136, en_X11_within), (144, en_X11_ofPlace), (143, en_X11_ofPerson)]
set_option maxRecDepth 100000 in
set_option maxHeartbeats 4000000 in
theorem eq_X11_of   (a0 : Int32) (a1 : Int32) (s : SS) : ex (tb_X11_of (calE (es_X11_of))) rI [] (fun _ _ _ _ => none) 34 0 [some (.ref 0), some (.int a0), some (.int a1)] [] s = f_X11_of a0 a1 s := by
  rfl
set_option maxRecDepth 100000 in
set_option maxHeartbeats 4000000 in
theorem run_X11_of {l : Launch} {G : Gm}   (a0 : Int32) (a1 : Int32) (s : SS) (q : (Int32 × SS)) (h : f_X11_of a0 a1 s = some q) (D' : Nat) (hD : 4 ≤ D') : RunsM l G (D' + 1) (md 105) (embS s) [.ref 0, .int a0, .int a1] (some (.int q.1)) (embS q.2) := by
  rw [md_X11_of]
  refine runs_I (plainFor_of_name (by decide +kernel)) (Nat.le_of_ble_eq_true rfl) rfl ?_
  intro A p e R s0 m args below meth c Q ad0 hR X hret
  have X : Cx G A RX11 cX11_of 3 p s0 m args c := X
  have hT := tk_X11_of X (calE_ok (es := es_X11_of) (enc (en_X11_within_ok _ (by omega)) (enc (en_X11_ofPlace_ok _ (by omega)) (enc (en_X11_ofPerson_ok _ (by omega)) (enn))))) (rmD rfl hR) hret
  rw [← eq_X11_of   a0 a1 s] at h
  refine ex_good hT (fun pc' ls' st' x' hh => ?_) 34 0 _ [] s h
  cases hh

noncomputable def en_X11_of  : En := fun _ av s k => match av with
  | [.ref r0, .int a0, .int a1] => (gd (Nat.beq r0 0) (bI (f_X11_of a0 a1 s) k))
  | _ => none
set_option maxRecDepth 100000 in
set_option maxHeartbeats 4000000 in
theorem en_X11_of_ok {l : Launch} {G : Gm} (D : Nat) (hD : 5 ≤ D) : enOK l G D 105 en_X11_of := by
  intro ρ av x k r h
  unfold en_X11_of at h
  split at h
  · obtain ⟨g0, h⟩ := gd_some h
    obtain ⟨q, h1, h2⟩ := bind_of h
    have e0 := beq1 g0
    subst e0
    obtain ⟨D', rfl⟩ : ∃ D', D = D' + 1 := ⟨D - 1, by omega⟩
    exact ⟨_, _, h2, run_X11_of  _ _ _ _ h1 D' (by omega)⟩
  · cases h

/-! HatRank feed -/
noncomputable def tb_X11_feed (cal : Cal SS) : List (Nat × Ins SS) := [(0, e_iload 1 1), (1, e_iconst (0) 2), (2, e_iconst (255) 5), (5, e_callS cal 136 3 8), (8, e_ifne 13 11), (11, e_iconst (-1) 12), (12, e_iret), (13, e_aload 0 14), (14, e_getR opsS 11 2 17), (17, e_iload 1 18), (18, e_callV opsS cal 65 1 8 21), (21, e_iret)]
set_option maxRecDepth 100000 in
set_option maxHeartbeats 4000000 in
theorem tk_X11_feed {ad0 : Nat → Nat} {G : Gm} {A : Nat → Prop} {p : Program} {l : Launch} {e : Env} {R : Room} {s0 : State} {m : MethodId} {args : Array Value} {below : List Frame} {meth : Method} {c : Code} {Q : State → Prop} {ρ : Type} {ret : Option Value → SS → Option ρ} {r : ρ} (X : Cx G A RX11 cX11_feed 2 p s0 m args c) {D' : Nat} {cal : Cal SS} (hcal : calOK l G opsS D' cal) (hRm : ∀ k, k ≤ 21 → D' + 1 ≤ R.frames ∧ 8 + (k + 11) + 40 * D' ≤ R.locals) (hret : RetK G A cX11_feed 113 6344 ad0 p l e R s0 m args below meth c Q opsS ret r .ireturn okI) : ∀ q ∈ tb_X11_feed cal, OKi G A 2 113 6344 ad0 p l e R s0 m args below meth c Q opsS ret r q.1 q.2 :=
    okc (ok_iload_n (j := 1) X (by decide +kernel) rfl rfl) (
    okc (ok_iconst (n := 0) X (by decide +kernel) rfl rfl) (
    okc (ok_sipush (n := 255) X (by decide +kernel) rfl rfl) (
    okc (ok_callS (Y := (yX11_within, cX11_within, 3, (some .boolean))) X hcal opsS_n md_X11_within wc_X11_within wl_X11_92 wi_X11 ws_X11_within (by decide +kernel) (hRm 3 (by decide)) (by decide +kernel) rfl) (
    okc (ok_ifne (off := 5) X (by decide +kernel) (by decide) rfl) (
    okc (ok_iconst (n := -1) X (by decide +kernel) rfl rfl) (
    okc (ok_iret hret (by decide +kernel)) (
    okc (ok_aload_n (j := 0) X (by decide +kernel) rfl rfl) (
    okc (ok_getR (ci := 11) (kf := 2) (idx := 26) (C := RX11) (T := TX11) (N := 15) X rfl (by decide) inX11 (by decide) wf_X11_26 (fun _ _ _ => rfl) (by decide +kernel) rfl) (
    okc (ok_iload_n (j := 1) X (by decide +kernel) rfl rfl) (
    okc (ok_callV (ci := 8) (C := RX8) (T := TX8) (N := 5) (Y := (yX8_take, cX8_take, 2, (some .int))) X hcal opsS_n md_X8_take rfl (by decide) rfl wc_X8_take wl_X11_150 wi_X8 wm_X8_take wv_X8_take (by decide +kernel) (hRm 2 (by decide)) (by decide +kernel) rfl) (
    okc (ok_iret hret (by decide +kernel)) (
    okn))))))))))))
noncomputable def es_X11_feed  : List (Nat × En) := [(136, en_X11_within), (65, en_X8_take)]
set_option maxRecDepth 100000 in
set_option maxHeartbeats 4000000 in
theorem eq_X11_feed   (a0 : Int32) (s : SS) : ex (tb_X11_feed (calE (es_X11_feed))) rI [] (fun _ _ _ _ => none) 14 0 [some (.ref 0), some (.int a0)] [] s = f_X11_feed a0 s := by
  rfl
set_option maxRecDepth 100000 in
set_option maxHeartbeats 4000000 in
theorem run_X11_feed {l : Launch} {G : Gm}   (a0 : Int32) (s : SS) (q : (Int32 × SS)) (h : f_X11_feed a0 s = some q) (D' : Nat) (hD : 1 ≤ D') : RunsM l G (D' + 1) (md 106) (embS s) [.ref 0, .int a0] (some (.int q.1)) (embS q.2) := by
  rw [md_X11_feed]
  refine runs_I (plainFor_of_name (by decide +kernel)) (Nat.le_of_ble_eq_true rfl) rfl ?_
  intro A p e R s0 m args below meth c Q ad0 hR X hret
  have X : Cx G A RX11 cX11_feed 2 p s0 m args c := X
  have hT := tk_X11_feed X (calE_ok (es := es_X11_feed) (enc (en_X11_within_ok _ (by omega)) (enc (en_X8_take_ok _ (by omega)) (enn)))) (rmD rfl hR) hret
  rw [← eq_X11_feed   a0 s] at h
  refine ex_good hT (fun pc' ls' st' x' hh => ?_) 14 0 _ [] s h
  cases hh

noncomputable def en_X11_feed  : En := fun _ av s k => match av with
  | [.ref r0, .int a0] => (gd (Nat.beq r0 0) (bI (f_X11_feed a0 s) k))
  | _ => none
set_option maxRecDepth 100000 in
set_option maxHeartbeats 4000000 in
theorem en_X11_feed_ok {l : Launch} {G : Gm} (D : Nat) (hD : 2 ≤ D) : enOK l G D 106 en_X11_feed := by
  intro ρ av x k r h
  unfold en_X11_feed at h
  split at h
  · obtain ⟨g0, h⟩ := gd_some h
    obtain ⟨q, h1, h2⟩ := bind_of h
    have e0 := beq1 g0
    subst e0
    obtain ⟨D', rfl⟩ : ∃ D', D = D' + 1 := ⟨D - 1, by omega⟩
    exact ⟨_, _, h2, run_X11_feed  _ _ _ h1 D' (by omega)⟩
  · cases h

/-! HatRank law -/
noncomputable def tb_X11_law (cal : Cal SS) : List (Nat × Ins SS) := [(0, e_aload 0 1), (1, e_getR opsS 11 2 4), (4, e_callV opsS cal 66 0 8 7), (7, e_istore 1 8), (8, e_iload 1 9), (9, e_ifge 16 12), (12, e_iconst (1) 13), (13, e_goto 20), (16, e_iconst (-100) 18), (18, e_iload 1 19), (19, e_bin aSub 20), (20, e_iret)]
set_option maxRecDepth 100000 in
set_option maxHeartbeats 4000000 in
theorem tk_X11_law {ad0 : Nat → Nat} {G : Gm} {A : Nat → Prop} {p : Program} {l : Launch} {e : Env} {R : Room} {s0 : State} {m : MethodId} {args : Array Value} {below : List Frame} {meth : Method} {c : Code} {Q : State → Prop} {ρ : Type} {ret : Option Value → SS → Option ρ} {r : ρ} (X : Cx G A RX11 cX11_law 2 p s0 m args c) {D' : Nat} {cal : Cal SS} (hcal : calOK l G opsS D' cal) (hRm : ∀ k, k ≤ 21 → D' + 1 ≤ R.frames ∧ 8 + (k + 11) + 40 * D' ≤ R.locals) (hret : RetK G A cX11_law 113 6344 ad0 p l e R s0 m args below meth c Q opsS ret r .ireturn okI) : ∀ q ∈ tb_X11_law cal, OKi G A 2 113 6344 ad0 p l e R s0 m args below meth c Q opsS ret r q.1 q.2 :=
    okc (ok_aload_n (j := 0) X (by decide +kernel) rfl rfl) (
    okc (ok_getR (ci := 11) (kf := 2) (idx := 26) (C := RX11) (T := TX11) (N := 15) X rfl (by decide) inX11 (by decide) wf_X11_26 (fun _ _ _ => rfl) (by decide +kernel) rfl) (
    okc (ok_callV (ci := 8) (C := RX8) (T := TX8) (N := 5) (Y := (yX8_becomeLaw, cX8_becomeLaw, 3, (some .int))) X hcal opsS_n md_X8_becomeLaw rfl (by decide) rfl wc_X8_becomeLaw wl_X11_153 wi_X8 wm_X8_becomeLaw wv_X8_becomeLaw (by decide +kernel) (hRm 3 (by decide)) (by decide +kernel) rfl) (
    okc (ok_istore_n (j := 1) X (by decide +kernel) rfl rfl) (
    okc (ok_iload_n (j := 1) X (by decide +kernel) rfl rfl) (
    okc (ok_ifge (off := 7) X (by decide +kernel) (by decide) rfl) (
    okc (ok_iconst (n := 1) X (by decide +kernel) rfl rfl) (
    okc (ok_goto (off := 7) X (by decide +kernel) (by decide)) (
    okc (ok_bipush (n := -100) X (by decide +kernel) rfl rfl) (
    okc (ok_iload_n (j := 1) X (by decide +kernel) rfl rfl) (
    okc (ok_isub X (by decide +kernel) rfl) (
    okc (ok_iret hret (by decide +kernel)) (
    okn))))))))))))
noncomputable def es_X11_law  : List (Nat × En) := [(66, en_X8_becomeLaw)]
set_option maxRecDepth 100000 in
set_option maxHeartbeats 4000000 in
theorem eq_X11_law    (s : SS) : ex (tb_X11_law (calE (es_X11_law))) rI [] (fun _ _ _ _ => none) 14 0 [some (.ref 0), none] [] s = f_X11_law  s := by
  rfl
set_option maxRecDepth 100000 in
set_option maxHeartbeats 4000000 in
theorem run_X11_law {l : Launch} {G : Gm}    (s : SS) (q : (Int32 × SS)) (h : f_X11_law  s = some q) (D' : Nat) (hD : 108 ≤ D') : RunsM l G (D' + 1) (md 107) (embS s) [.ref 0] (some (.int q.1)) (embS q.2) := by
  rw [md_X11_law]
  refine runs_I (plainFor_of_name (by decide +kernel)) (Nat.le_of_ble_eq_true rfl) rfl ?_
  intro A p e R s0 m args below meth c Q ad0 hR X hret
  have X : Cx G A RX11 cX11_law 2 p s0 m args c := X
  have hT := tk_X11_law X (calE_ok (es := es_X11_law) (enc (en_X8_becomeLaw_ok _ (by omega)) (enn))) (rmD rfl hR) hret
  rw [← eq_X11_law    s] at h
  refine ex_good hT (fun pc' ls' st' x' hh => ?_) 14 0 _ [] s h
  cases hh

noncomputable def en_X11_law  : En := fun _ av s k => match av with
  | [.ref r0] => (gd (Nat.beq r0 0) (bI (f_X11_law  s) k))
  | _ => none
set_option maxRecDepth 100000 in
set_option maxHeartbeats 4000000 in
theorem en_X11_law_ok {l : Launch} {G : Gm} (D : Nat) (hD : 109 ≤ D) : enOK l G D 107 en_X11_law := by
  intro ρ av x k r h
  unfold en_X11_law at h
  split at h
  · obtain ⟨g0, h⟩ := gd_some h
    obtain ⟨q, h1, h2⟩ := bind_of h
    have e0 := beq1 g0
    subst e0
    obtain ⟨D', rfl⟩ : ∃ D', D = D' + 1 := ⟨D - 1, by omega⟩
    exact ⟨_, _, h2, run_X11_law   _ _ h1 D' (by omega)⟩
  · cases h

/-! HatRank hoursLeft -/
noncomputable def tb_X11_hoursLeft (cal : Cal SS) : List (Nat × Ins SS) := [(0, e_iconst (24) 2), (2, e_aload 0 3), (3, e_getR opsS 11 1 6), (6, e_getI opsS 2 3 9), (9, e_bin aSub 10), (10, e_iret)]
set_option maxRecDepth 100000 in
set_option maxHeartbeats 4000000 in
theorem tk_X11_hoursLeft {ad0 : Nat → Nat} {G : Gm} {A : Nat → Prop} {p : Program} {l : Launch} {e : Env} {R : Room} {s0 : State} {m : MethodId} {args : Array Value} {below : List Frame} {meth : Method} {c : Code} {Q : State → Prop} {ρ : Type} {ret : Option Value → SS → Option ρ} {r : ρ} (X : Cx G A RX11 cX11_hoursLeft 1 p s0 m args c) {D' : Nat} {cal : Cal SS} (hcal : calOK l G opsS D' cal) (hRm : ∀ k, k ≤ 21 → D' + 1 ≤ R.frames ∧ 8 + (k + 11) + 40 * D' ≤ R.locals) (hret : RetK G A cX11_hoursLeft 113 6344 ad0 p l e R s0 m args below meth c Q opsS ret r .ireturn okI) : ∀ q ∈ tb_X11_hoursLeft cal, OKi G A 1 113 6344 ad0 p l e R s0 m args below meth c Q opsS ret r q.1 q.2 :=
    okc (ok_bipush (n := 24) X (by decide +kernel) rfl rfl) (
    okc (ok_aload_n (j := 0) X (by decide +kernel) rfl rfl) (
    okc (ok_getR (ci := 11) (kf := 1) (idx := 19) (C := RX11) (T := TX11) (N := 15) X rfl (by decide) inX11 (by decide) wf_X11_19 (fun _ _ _ => rfl) (by decide +kernel) rfl) (
    okc (ok_getI (ci := 2) (kf := 3) (idx := 194) (C := RX2) (T := TX2) (N := 4) X rfl (by decide) inX2 (by decide) wf_X11_194 (fun _ _ _ => rfl) (by decide +kernel) rfl) (
    okc (ok_isub X (by decide +kernel) rfl) (
    okc (ok_iret hret (by decide +kernel)) (
    okn))))))
noncomputable def es_X11_hoursLeft  : List (Nat × En) := []
set_option maxRecDepth 100000 in
set_option maxHeartbeats 4000000 in
theorem eq_X11_hoursLeft    (s : SS) : ex (tb_X11_hoursLeft (calE (es_X11_hoursLeft))) rI [] (fun _ _ _ _ => none) 8 0 [some (.ref 0)] [] s = f_X11_hoursLeft  s := by
  rfl
set_option maxRecDepth 100000 in
set_option maxHeartbeats 4000000 in
theorem run_X11_hoursLeft {l : Launch} {G : Gm}    (s : SS) (q : (Int32 × SS)) (h : f_X11_hoursLeft  s = some q) (D' : Nat) (hD : 0 ≤ D') : RunsM l G (D' + 1) (md 137) (embS s) [.ref 0] (some (.int q.1)) (embS q.2) := by
  rw [md_X11_hoursLeft]
  refine runs_I (plainFor_of_name (by decide +kernel)) (Nat.le_of_ble_eq_true rfl) rfl ?_
  intro A p e R s0 m args below meth c Q ad0 hR X hret
  have X : Cx G A RX11 cX11_hoursLeft 1 p s0 m args c := X
  have hT := tk_X11_hoursLeft X (calE_ok (es := es_X11_hoursLeft) (enn)) (rmD rfl hR) hret
  rw [← eq_X11_hoursLeft    s] at h
  refine ex_good hT (fun pc' ls' st' x' hh => ?_) 8 0 _ [] s h
  cases hh

noncomputable def en_X11_hoursLeft  : En := fun _ av s k => match av with
  | [.ref r0] => (gd (Nat.beq r0 0) (bI (f_X11_hoursLeft  s) k))
  | _ => none
set_option maxRecDepth 100000 in
set_option maxHeartbeats 4000000 in
theorem en_X11_hoursLeft_ok {l : Launch} {G : Gm} (D : Nat) (hD : 1 ≤ D) : enOK l G D 137 en_X11_hoursLeft := by
  intro ρ av x k r h
  unfold en_X11_hoursLeft at h
  split at h
  · obtain ⟨g0, h⟩ := gd_some h
    obtain ⟨q, h1, h2⟩ := bind_of h
    have e0 := beq1 g0
    subst e0
    obtain ⟨D', rfl⟩ : ∃ D', D = D' + 1 := ⟨D - 1, by omega⟩
    exact ⟨_, _, h2, run_X11_hoursLeft   _ _ h1 D' (by omega)⟩
  · cases h

/-! HatRank go -/
noncomputable def tb_X11_go (cal : Cal SS) : List (Nat × Ins SS) := [(0, e_iload 2 1), (1, e_iconst (1) 2), (2, e_iconst (24) 4), (4, e_callS cal 136 3 7), (7, e_ifne 12 10), (10, e_iconst (-1) 11), (11, e_iret), (12, e_iload 2 13), (13, e_aload 0 14), (14, e_callV opsS cal 137 0 11 17), (17, e_cle 23 20), (20, e_iconst (-5) 22), (22, e_iret), (23, e_aload 0 24), (24, e_getR opsS 11 3 27), (27, e_iconst (0) 28), (28, e_callV opsS cal 31 1 4 31), (31, e_aload 0 32), (32, e_getR opsS 11 4 35), (35, e_iload 1 36), (36, e_callV opsS cal 89 1 10 39), (39, e_aload 0 40), (40, e_getR opsS 11 4 43), (43, e_aload 0 44), (44, e_getR opsS 11 1 47), (47, e_iload 2 48), (48, e_aload 0 49), (49, e_getR opsS 11 10 52), (52, e_callV opsS cal 91 3 10 55), (55, e_iret)]
set_option maxRecDepth 100000 in
set_option maxHeartbeats 4000000 in
theorem tk_X11_go {ad0 : Nat → Nat} {G : Gm} {A : Nat → Prop} {p : Program} {l : Launch} {e : Env} {R : Room} {s0 : State} {m : MethodId} {args : Array Value} {below : List Frame} {meth : Method} {c : Code} {Q : State → Prop} {ρ : Type} {ret : Option Value → SS → Option ρ} {r : ρ} (X : Cx G A RX11 cX11_go 3 p s0 m args c) {D' : Nat} {cal : Cal SS} (hcal : calOK l G opsS D' cal) (hRm : ∀ k, k ≤ 21 → D' + 1 ≤ R.frames ∧ 8 + (k + 11) + 40 * D' ≤ R.locals) (hret : RetK G A cX11_go 113 6344 ad0 p l e R s0 m args below meth c Q opsS ret r .ireturn okI) : ∀ q ∈ tb_X11_go cal, OKi G A 3 113 6344 ad0 p l e R s0 m args below meth c Q opsS ret r q.1 q.2 :=
    okc (ok_iload_n (j := 2) X (by decide +kernel) rfl rfl) (
    okc (ok_iconst (n := 1) X (by decide +kernel) rfl rfl) (
    okc (ok_bipush (n := 24) X (by decide +kernel) rfl rfl) (
    okc (ok_callS (Y := (yX11_within, cX11_within, 3, (some .boolean))) X hcal opsS_n md_X11_within wc_X11_within wl_X11_92 wi_X11 ws_X11_within (by decide +kernel) (hRm 3 (by decide)) (by decide +kernel) rfl) (
    okc (ok_ifne (off := 5) X (by decide +kernel) (by decide) rfl) (
    okc (ok_iconst (n := -1) X (by decide +kernel) rfl rfl) (
    okc (ok_iret hret (by decide +kernel)) (
    okc (ok_iload_n (j := 2) X (by decide +kernel) rfl rfl) (
    okc (ok_aload_n (j := 0) X (by decide +kernel) rfl rfl) (
    okc (ok_callV (ci := 11) (C := RX11) (T := TX11) (N := 15) (Y := (yX11_hoursLeft, cX11_hoursLeft, 1, (some .int))) X hcal opsS_n md_X11_hoursLeft rfl (by decide) rfl wc_X11_hoursLeft wl_X11_157 wi_X11 wm_X11_hoursLeft wv_X11_hoursLeft (by decide +kernel) (hRm 1 (by decide)) (by decide +kernel) rfl) (
    okc (ok_cle (off := 6) X (by decide +kernel) (by decide) rfl) (
    okc (ok_bipush (n := -5) X (by decide +kernel) rfl rfl) (
    okc (ok_iret hret (by decide +kernel)) (
    okc (ok_aload_n (j := 0) X (by decide +kernel) rfl rfl) (
    okc (ok_getR (ci := 11) (kf := 3) (idx := 35) (C := RX11) (T := TX11) (N := 15) X rfl (by decide) inX11 (by decide) wf_X11_35 (fun _ _ _ => rfl) (by decide +kernel) rfl) (
    okc (ok_iconst (n := 0) X (by decide +kernel) rfl rfl) (
    okc (ok_callV (ci := 4) (C := RX4) (T := TX4) (N := 4) (Y := (yX4_begin, cX4_begin, 2, none)) X hcal opsS_n md_X4_begin rfl (by decide) rfl wc_X4_begin wl_X11_160 wi_X4 wm_X4_begin wv_X4_begin (by decide +kernel) (hRm 2 (by decide)) (by decide +kernel) rfl) (
    okc (ok_aload_n (j := 0) X (by decide +kernel) rfl rfl) (
    okc (ok_getR (ci := 11) (kf := 4) (idx := 44) (C := RX11) (T := TX11) (N := 15) X rfl (by decide) inX11 (by decide) wf_X11_44 (fun _ _ _ => rfl) (by decide +kernel) rfl) (
    okc (ok_iload_n (j := 1) X (by decide +kernel) rfl rfl) (
    okc (ok_callV (ci := 10) (C := RX10) (T := TX10) (N := 4) (Y := (yX10_begin, cX10_begin, 2, none)) X hcal opsS_n md_X10_begin rfl (by decide) rfl wc_X10_begin wl_X11_164 wi_X10 wm_X10_begin wv_X10_begin (by decide +kernel) (hRm 2 (by decide)) (by decide +kernel) rfl) (
    okc (ok_aload_n (j := 0) X (by decide +kernel) rfl rfl) (
    okc (ok_getR (ci := 11) (kf := 4) (idx := 44) (C := RX11) (T := TX11) (N := 15) X rfl (by decide) inX11 (by decide) wf_X11_44 (fun _ _ _ => rfl) (by decide +kernel) rfl) (
    okc (ok_aload_n (j := 0) X (by decide +kernel) rfl rfl) (
    okc (ok_getR (ci := 11) (kf := 1) (idx := 19) (C := RX11) (T := TX11) (N := 15) X rfl (by decide) inX11 (by decide) wf_X11_19 (fun _ _ _ => rfl) (by decide +kernel) rfl) (
    okc (ok_iload_n (j := 2) X (by decide +kernel) rfl rfl) (
    okc (ok_aload_n (j := 0) X (by decide +kernel) rfl rfl) (
    okc (ok_getR (ci := 11) (kf := 10) (idx := 85) (C := RX11) (T := TX11) (N := 15) X rfl (by decide) inX11 (by decide) wf_X11_85 (fun _ _ _ => rfl) (by decide +kernel) rfl) (
    okc (ok_callV (ci := 10) (C := RX10) (T := TX10) (N := 4) (Y := (yX10_blowHours, cX10_blowHours, 8, (some .int))) X hcal opsS_n md_X10_blowHours rfl (by decide) rfl wc_X10_blowHours wl_X11_165 wi_X10 wm_X10_blowHours wv_X10_blowHours (by decide +kernel) (hRm 8 (by decide)) (by decide +kernel) rfl) (
    okc (ok_iret hret (by decide +kernel)) (
    okn))))))))))))))))))))))))))))))
noncomputable def es_X11_go  : List (Nat × En) := [(136, en_X11_within), (137, en_X11_hoursLeft), (31, en_X4_begin), (89, en_X10_begin), (91, en_X10_blowHours)]
set_option maxRecDepth 100000 in
set_option maxHeartbeats 4000000 in
theorem eq_X11_go   (a0 : Int32) (a1 : Int32) (s : SS) : ex (tb_X11_go (calE (es_X11_go))) rI [] (fun _ _ _ _ => none) 32 0 [some (.ref 0), some (.int a0), some (.int a1)] [] s = f_X11_go a0 a1 s := by
  rfl
set_option maxRecDepth 100000 in
set_option maxHeartbeats 4000000 in
theorem run_X11_go {l : Launch} {G : Gm}   (a0 : Int32) (a1 : Int32) (s : SS) (q : (Int32 × SS)) (h : f_X11_go a0 a1 s = some q) (D' : Nat) (hD : 6 ≤ D') : RunsM l G (D' + 1) (md 108) (embS s) [.ref 0, .int a0, .int a1] (some (.int q.1)) (embS q.2) := by
  rw [md_X11_go]
  refine runs_I (plainFor_of_name (by decide +kernel)) (Nat.le_of_ble_eq_true rfl) rfl ?_
  intro A p e R s0 m args below meth c Q ad0 hR X hret
  have X : Cx G A RX11 cX11_go 3 p s0 m args c := X
  have hT := tk_X11_go X (calE_ok (es := es_X11_go) (enc (en_X11_within_ok _ (by omega)) (enc (en_X11_hoursLeft_ok _ (by omega)) (enc (en_X4_begin_ok _ (by omega)) (enc (en_X10_begin_ok _ (by omega)) (enc (en_X10_blowHours_ok _ (by omega)) (enn))))))) (rmD rfl hR) hret
  rw [← eq_X11_go   a0 a1 s] at h
  refine ex_good hT (fun pc' ls' st' x' hh => ?_) 32 0 _ [] s h
  cases hh

noncomputable def en_X11_go  : En := fun _ av s k => match av with
  | [.ref r0, .int a0, .int a1] => (gd (Nat.beq r0 0) (bI (f_X11_go a0 a1 s) k))
  | _ => none
set_option maxRecDepth 100000 in
set_option maxHeartbeats 4000000 in
theorem en_X11_go_ok {l : Launch} {G : Gm} (D : Nat) (hD : 7 ≤ D) : enOK l G D 108 en_X11_go := by
  intro ρ av x k r h
  unfold en_X11_go at h
  split at h
  · obtain ⟨g0, h⟩ := gd_some h
    obtain ⟨q, h1, h2⟩ := bind_of h
    have e0 := beq1 g0
    subst e0
    obtain ⟨D', rfl⟩ : ∃ D', D = D' + 1 := ⟨D - 1, by omega⟩
    exact ⟨_, _, h2, run_X11_go  _ _ _ _ h1 D' (by omega)⟩
  · cases h

/-! HatRank move -/
noncomputable def tb_X11_move (cal : Cal SS) : List (Nat × Ins SS) := [(0, e_aload 0 1), (1, e_getR opsS 11 0 4), (4, e_iload 1 5), (5, e_callV opsS cal 77 1 9 8), (8, e_ifeq 22 11), (11, e_aload 0 12), (12, e_getR opsS 11 0 15), (15, e_iload 2 16), (16, e_callV opsS cal 78 1 9 19), (19, e_ifne 24 22), (22, e_iconst (-1) 23), (23, e_iret), (24, e_aload 0 25), (25, e_getR opsS 11 0 28), (28, e_aload 0 29), (29, e_getR opsS 11 1 32), (32, e_getR opsS 2 1 35), (35, e_iload 1 36), (36, e_ald opsS 100 37), (37, e_iload 2 38), (38, e_callV opsS cal 81 2 9 41), (41, e_ifne 47 44), (44, e_iconst (-2) 46), (46, e_iret), (47, e_aload 0 48), (48, e_getR opsS 11 1 51), (51, e_getR opsS 2 1 54), (54, e_iload 1 55), (55, e_iload 2 56), (56, e_ast opsS 100 (fun v => v) 57), (57, e_iload 2 58), (58, e_iret)]
set_option maxRecDepth 100000 in
set_option maxHeartbeats 4000000 in
theorem tk_X11_move {ad0 : Nat → Nat} {G : Gm} {A : Nat → Prop} {p : Program} {l : Launch} {e : Env} {R : Room} {s0 : State} {m : MethodId} {args : Array Value} {below : List Frame} {meth : Method} {c : Code} {Q : State → Prop} {ρ : Type} {ret : Option Value → SS → Option ρ} {r : ρ} (X : Cx G A RX11 cX11_move 3 p s0 m args c) {D' : Nat} {cal : Cal SS} (hcal : calOK l G opsS D' cal) (hRm : ∀ k, k ≤ 21 → D' + 1 ≤ R.frames ∧ 8 + (k + 11) + 40 * D' ≤ R.locals) (hret : RetK G A cX11_move 113 6344 ad0 p l e R s0 m args below meth c Q opsS ret r .ireturn okI) : ∀ q ∈ tb_X11_move cal, OKi G A 3 113 6344 ad0 p l e R s0 m args below meth c Q opsS ret r q.1 q.2 :=
    okc (ok_aload_n (j := 0) X (by decide +kernel) rfl rfl) (
    okc (ok_getR (ci := 11) (kf := 0) (idx := 10) (C := RX11) (T := TX11) (N := 15) X rfl (by decide) inX11 (by decide) wf_X11_10 (fun _ _ _ => rfl) (by decide +kernel) rfl) (
    okc (ok_iload_n (j := 1) X (by decide +kernel) rfl rfl) (
    okc (ok_callV (ci := 9) (C := RX9) (T := TX9) (N := 8) (Y := (yX9_hasPerson, cX9_hasPerson, 2, (some .boolean))) X hcal opsS_n md_X9_hasPerson rfl (by decide) rfl wc_X9_hasPerson wl_X11_169 wi_X9 wm_X9_hasPerson wv_X9_hasPerson (by decide +kernel) (hRm 2 (by decide)) (by decide +kernel) rfl) (
    okc (ok_ifeq (off := 14) X (by decide +kernel) (by decide) rfl) (
    okc (ok_aload_n (j := 0) X (by decide +kernel) rfl rfl) (
    okc (ok_getR (ci := 11) (kf := 0) (idx := 10) (C := RX11) (T := TX11) (N := 15) X rfl (by decide) inX11 (by decide) wf_X11_10 (fun _ _ _ => rfl) (by decide +kernel) rfl) (
    okc (ok_iload_n (j := 2) X (by decide +kernel) rfl rfl) (
    okc (ok_callV (ci := 9) (C := RX9) (T := TX9) (N := 8) (Y := (yX9_hasPlace, cX9_hasPlace, 2, (some .boolean))) X hcal opsS_n md_X9_hasPlace rfl (by decide) rfl wc_X9_hasPlace wl_X11_100 wi_X9 wm_X9_hasPlace wv_X9_hasPlace (by decide +kernel) (hRm 2 (by decide)) (by decide +kernel) rfl) (
    okc (ok_ifne (off := 5) X (by decide +kernel) (by decide) rfl) (
    okc (ok_iconst (n := -1) X (by decide +kernel) rfl rfl) (
    okc (ok_iret hret (by decide +kernel)) (
    okc (ok_aload_n (j := 0) X (by decide +kernel) rfl rfl) (
    okc (ok_getR (ci := 11) (kf := 0) (idx := 10) (C := RX11) (T := TX11) (N := 15) X rfl (by decide) inX11 (by decide) wf_X11_10 (fun _ _ _ => rfl) (by decide +kernel) rfl) (
    okc (ok_aload_n (j := 0) X (by decide +kernel) rfl rfl) (
    okc (ok_getR (ci := 11) (kf := 1) (idx := 19) (C := RX11) (T := TX11) (N := 15) X rfl (by decide) inX11 (by decide) wf_X11_19 (fun _ _ _ => rfl) (by decide +kernel) rfl) (
    okc (ok_getR (ci := 2) (kf := 1) (idx := 172) (C := RX2) (T := TX2) (N := 4) X rfl (by decide) inX2 (by decide) wf_X11_172 (fun _ _ _ => rfl) (by decide +kernel) rfl) (
    okc (ok_iload_n (j := 1) X (by decide +kernel) rfl rfl) (
    okc (ok_iald X (by decide +kernel) rfl) (
    okc (ok_iload_n (j := 2) X (by decide +kernel) rfl rfl) (
    okc (ok_callV (ci := 9) (C := RX9) (T := TX9) (N := 8) (Y := (yX9_joined, cX9_joined, 3, (some .boolean))) X hcal opsS_n md_X9_joined rfl (by decide) rfl wc_X9_joined wl_X11_104 wi_X9 wm_X9_joined wv_X9_joined (by decide +kernel) (hRm 3 (by decide)) (by decide +kernel) rfl) (
    okc (ok_ifne (off := 6) X (by decide +kernel) (by decide) rfl) (
    okc (ok_bipush (n := -2) X (by decide +kernel) rfl rfl) (
    okc (ok_iret hret (by decide +kernel)) (
    okc (ok_aload_n (j := 0) X (by decide +kernel) rfl rfl) (
    okc (ok_getR (ci := 11) (kf := 1) (idx := 19) (C := RX11) (T := TX11) (N := 15) X rfl (by decide) inX11 (by decide) wf_X11_19 (fun _ _ _ => rfl) (by decide +kernel) rfl) (
    okc (ok_getR (ci := 2) (kf := 1) (idx := 172) (C := RX2) (T := TX2) (N := 4) X rfl (by decide) inX2 (by decide) wf_X11_172 (fun _ _ _ => rfl) (by decide +kernel) rfl) (
    okc (ok_iload_n (j := 1) X (by decide +kernel) rfl rfl) (
    okc (ok_iload_n (j := 2) X (by decide +kernel) rfl rfl) (
    okc (ok_iast X opsS_ok (by decide +kernel) rfl) (
    okc (ok_iload_n (j := 2) X (by decide +kernel) rfl rfl) (
    okc (ok_iret hret (by decide +kernel)) (
    okn))))))))))))))))))))))))))))))))
noncomputable def es_X11_move  : List (Nat × En) := [(77, en_X9_hasPerson), (78, en_X9_hasPlace), (81, en_X9_joined)]
set_option maxRecDepth 100000 in
set_option maxHeartbeats 4000000 in
theorem eq_X11_move   (a0 : Int32) (a1 : Int32) (s : SS) : ex (tb_X11_move (calE (es_X11_move))) rI [] (fun _ _ _ _ => none) 34 0 [some (.ref 0), some (.int a0), some (.int a1)] [] s = f_X11_move a0 a1 s := by
  rfl
set_option maxRecDepth 100000 in
set_option maxHeartbeats 4000000 in
theorem run_X11_move {l : Launch} {G : Gm}   (a0 : Int32) (a1 : Int32) (s : SS) (q : (Int32 × SS)) (h : f_X11_move a0 a1 s = some q) (D' : Nat) (hD : 2 ≤ D') : RunsM l G (D' + 1) (md 109) (embS s) [.ref 0, .int a0, .int a1] (some (.int q.1)) (embS q.2) := by
  rw [md_X11_move]
  refine runs_I (plainFor_of_name (by decide +kernel)) (Nat.le_of_ble_eq_true rfl) rfl ?_
  intro A p e R s0 m args below meth c Q ad0 hR X hret
  have X : Cx G A RX11 cX11_move 3 p s0 m args c := X
  have hT := tk_X11_move X (calE_ok (es := es_X11_move) (enc (en_X9_hasPerson_ok _ (by omega)) (enc (en_X9_hasPlace_ok _ (by omega)) (enc (en_X9_joined_ok _ (by omega)) (enn))))) (rmD rfl hR) hret
  rw [← eq_X11_move   a0 a1 s] at h
  refine ex_good hT (fun pc' ls' st' x' hh => ?_) 34 0 _ [] s h
  cases hh

noncomputable def en_X11_move  : En := fun _ av s k => match av with
  | [.ref r0, .int a0, .int a1] => (gd (Nat.beq r0 0) (bI (f_X11_move a0 a1 s) k))
  | _ => none
set_option maxRecDepth 100000 in
set_option maxHeartbeats 4000000 in
theorem en_X11_move_ok {l : Launch} {G : Gm} (D : Nat) (hD : 3 ≤ D) : enOK l G D 109 en_X11_move := by
  intro ρ av x k r h
  unfold en_X11_move at h
  split at h
  · obtain ⟨g0, h⟩ := gd_some h
    obtain ⟨q, h1, h2⟩ := bind_of h
    have e0 := beq1 g0
    subst e0
    obtain ⟨D', rfl⟩ : ∃ D', D = D' + 1 := ⟨D - 1, by omega⟩
    exact ⟨_, _, h2, run_X11_move  _ _ _ _ h1 D' (by omega)⟩
  · cases h

/-! HatRank lay -/
noncomputable def tb_X11_lay (cal : Cal SS) : List (Nat × Ins SS) := [(0, e_aload 0 1), (1, e_getR opsS 11 0 4), (4, e_iload 1 5), (5, e_callV opsS cal 78 1 9 8), (8, e_ifne 13 11), (11, e_iconst (-1) 12), (12, e_iret), (13, e_aload 0 14), (14, e_getR opsS 11 1 17), (17, e_getR opsS 2 2 20), (20, e_iload 1 21), (21, e_ald opsS 100 22), (22, e_iconst (99) 24), (24, e_clt 30 27), (27, e_iconst (-3) 29), (29, e_iret), (30, e_aload 0 31), (31, e_getR opsS 11 1 34), (34, e_getR opsS 2 2 37), (37, e_iload 1 38), (38, e_dup2 39), (39, e_ald opsS 100 40), (40, e_iconst (1) 41), (41, e_bin aAdd 42), (42, e_ast opsS 100 (fun v => v) 43), (43, e_aload 0 44), (44, e_getR opsS 11 1 47), (47, e_getR opsS 2 2 50), (50, e_iload 1 51), (51, e_ald opsS 100 52), (52, e_iret)]
set_option maxRecDepth 100000 in
set_option maxHeartbeats 4000000 in
theorem tk_X11_lay {ad0 : Nat → Nat} {G : Gm} {A : Nat → Prop} {p : Program} {l : Launch} {e : Env} {R : Room} {s0 : State} {m : MethodId} {args : Array Value} {below : List Frame} {meth : Method} {c : Code} {Q : State → Prop} {ρ : Type} {ret : Option Value → SS → Option ρ} {r : ρ} (X : Cx G A RX11 cX11_lay 2 p s0 m args c) {D' : Nat} {cal : Cal SS} (hcal : calOK l G opsS D' cal) (hRm : ∀ k, k ≤ 21 → D' + 1 ≤ R.frames ∧ 8 + (k + 11) + 40 * D' ≤ R.locals) (hret : RetK G A cX11_lay 113 6344 ad0 p l e R s0 m args below meth c Q opsS ret r .ireturn okI) : ∀ q ∈ tb_X11_lay cal, OKi G A 2 113 6344 ad0 p l e R s0 m args below meth c Q opsS ret r q.1 q.2 :=
    okc (ok_aload_n (j := 0) X (by decide +kernel) rfl rfl) (
    okc (ok_getR (ci := 11) (kf := 0) (idx := 10) (C := RX11) (T := TX11) (N := 15) X rfl (by decide) inX11 (by decide) wf_X11_10 (fun _ _ _ => rfl) (by decide +kernel) rfl) (
    okc (ok_iload_n (j := 1) X (by decide +kernel) rfl rfl) (
    okc (ok_callV (ci := 9) (C := RX9) (T := TX9) (N := 8) (Y := (yX9_hasPlace, cX9_hasPlace, 2, (some .boolean))) X hcal opsS_n md_X9_hasPlace rfl (by decide) rfl wc_X9_hasPlace wl_X11_100 wi_X9 wm_X9_hasPlace wv_X9_hasPlace (by decide +kernel) (hRm 2 (by decide)) (by decide +kernel) rfl) (
    okc (ok_ifne (off := 5) X (by decide +kernel) (by decide) rfl) (
    okc (ok_iconst (n := -1) X (by decide +kernel) rfl rfl) (
    okc (ok_iret hret (by decide +kernel)) (
    okc (ok_aload_n (j := 0) X (by decide +kernel) rfl rfl) (
    okc (ok_getR (ci := 11) (kf := 1) (idx := 19) (C := RX11) (T := TX11) (N := 15) X rfl (by decide) inX11 (by decide) wf_X11_19 (fun _ _ _ => rfl) (by decide +kernel) rfl) (
    okc (ok_getR (ci := 2) (kf := 2) (idx := 175) (C := RX2) (T := TX2) (N := 4) X rfl (by decide) inX2 (by decide) wf_X11_175 (fun _ _ _ => rfl) (by decide +kernel) rfl) (
    okc (ok_iload_n (j := 1) X (by decide +kernel) rfl rfl) (
    okc (ok_iald X (by decide +kernel) rfl) (
    okc (ok_bipush (n := 99) X (by decide +kernel) rfl rfl) (
    okc (ok_clt (off := 6) X (by decide +kernel) (by decide) rfl) (
    okc (ok_bipush (n := -3) X (by decide +kernel) rfl rfl) (
    okc (ok_iret hret (by decide +kernel)) (
    okc (ok_aload_n (j := 0) X (by decide +kernel) rfl rfl) (
    okc (ok_getR (ci := 11) (kf := 1) (idx := 19) (C := RX11) (T := TX11) (N := 15) X rfl (by decide) inX11 (by decide) wf_X11_19 (fun _ _ _ => rfl) (by decide +kernel) rfl) (
    okc (ok_getR (ci := 2) (kf := 2) (idx := 175) (C := RX2) (T := TX2) (N := 4) X rfl (by decide) inX2 (by decide) wf_X11_175 (fun _ _ _ => rfl) (by decide +kernel) rfl) (
    okc (ok_iload_n (j := 1) X (by decide +kernel) rfl rfl) (
    okc (ok_dup2 X (by decide +kernel) rfl) (
    okc (ok_iald X (by decide +kernel) rfl) (
    okc (ok_iconst (n := 1) X (by decide +kernel) rfl rfl) (
    okc (ok_iadd X (by decide +kernel) rfl) (
    okc (ok_iast X opsS_ok (by decide +kernel) rfl) (
    okc (ok_aload_n (j := 0) X (by decide +kernel) rfl rfl) (
    okc (ok_getR (ci := 11) (kf := 1) (idx := 19) (C := RX11) (T := TX11) (N := 15) X rfl (by decide) inX11 (by decide) wf_X11_19 (fun _ _ _ => rfl) (by decide +kernel) rfl) (
    okc (ok_getR (ci := 2) (kf := 2) (idx := 175) (C := RX2) (T := TX2) (N := 4) X rfl (by decide) inX2 (by decide) wf_X11_175 (fun _ _ _ => rfl) (by decide +kernel) rfl) (
    okc (ok_iload_n (j := 1) X (by decide +kernel) rfl rfl) (
    okc (ok_iald X (by decide +kernel) rfl) (
    okc (ok_iret hret (by decide +kernel)) (
    okn)))))))))))))))))))))))))))))))
noncomputable def es_X11_lay  : List (Nat × En) := [(78, en_X9_hasPlace)]
set_option maxRecDepth 100000 in
set_option maxHeartbeats 4000000 in
theorem eq_X11_lay   (a0 : Int32) (s : SS) : ex (tb_X11_lay (calE (es_X11_lay))) rI [] (fun _ _ _ _ => none) 33 0 [some (.ref 0), some (.int a0)] [] s = f_X11_lay a0 s := by
  rfl
set_option maxRecDepth 100000 in
set_option maxHeartbeats 4000000 in
theorem run_X11_lay {l : Launch} {G : Gm}   (a0 : Int32) (s : SS) (q : (Int32 × SS)) (h : f_X11_lay a0 s = some q) (D' : Nat) (hD : 1 ≤ D') : RunsM l G (D' + 1) (md 110) (embS s) [.ref 0, .int a0] (some (.int q.1)) (embS q.2) := by
  rw [md_X11_lay]
  refine runs_I (plainFor_of_name (by decide +kernel)) (Nat.le_of_ble_eq_true rfl) rfl ?_
  intro A p e R s0 m args below meth c Q ad0 hR X hret
  have X : Cx G A RX11 cX11_lay 2 p s0 m args c := X
  have hT := tk_X11_lay X (calE_ok (es := es_X11_lay) (enc (en_X9_hasPlace_ok _ (by omega)) (enn))) (rmD rfl hR) hret
  rw [← eq_X11_lay   a0 s] at h
  refine ex_good hT (fun pc' ls' st' x' hh => ?_) 33 0 _ [] s h
  cases hh

noncomputable def en_X11_lay  : En := fun _ av s k => match av with
  | [.ref r0, .int a0] => (gd (Nat.beq r0 0) (bI (f_X11_lay a0 s) k))
  | _ => none
set_option maxRecDepth 100000 in
set_option maxHeartbeats 4000000 in
theorem en_X11_lay_ok {l : Launch} {G : Gm} (D : Nat) (hD : 2 ≤ D) : enOK l G D 110 en_X11_lay := by
  intro ρ av x k r h
  unfold en_X11_lay at h
  split at h
  · obtain ⟨g0, h⟩ := gd_some h
    obtain ⟨q, h1, h2⟩ := bind_of h
    have e0 := beq1 g0
    subst e0
    obtain ⟨D', rfl⟩ : ∃ D', D = D' + 1 := ⟨D - 1, by omega⟩
    exact ⟨_, _, h2, run_X11_lay  _ _ _ h1 D' (by omega)⟩
  · cases h

/-! HatRank commands -/
noncomputable def tb_X11_commands (cal : Cal SS) : List (Nat × Ins SS) := [(0, e_aload 0 1), (1, e_getR opsS 11 0 4), (4, e_getI opsS 9 0 7), (7, e_ifne 15 10), (10, e_iconst (-5) 12), (12, e_goto 26), (15, e_aload 0 16), (16, e_getR opsS 11 0 19), (19, e_aload 0 20), (20, e_getR opsS 11 1 23), (23, e_callV opsS cal 87 1 9 26), (26, e_iret)]
set_option maxRecDepth 100000 in
set_option maxHeartbeats 4000000 in
theorem tk_X11_commands {ad0 : Nat → Nat} {G : Gm} {A : Nat → Prop} {p : Program} {l : Launch} {e : Env} {R : Room} {s0 : State} {m : MethodId} {args : Array Value} {below : List Frame} {meth : Method} {c : Code} {Q : State → Prop} {ρ : Type} {ret : Option Value → SS → Option ρ} {r : ρ} (X : Cx G A RX11 cX11_commands 1 p s0 m args c) {D' : Nat} {cal : Cal SS} (hcal : calOK l G opsS D' cal) (hRm : ∀ k, k ≤ 21 → D' + 1 ≤ R.frames ∧ 8 + (k + 11) + 40 * D' ≤ R.locals) (hret : RetK G A cX11_commands 113 6344 ad0 p l e R s0 m args below meth c Q opsS ret r .ireturn okI) : ∀ q ∈ tb_X11_commands cal, OKi G A 1 113 6344 ad0 p l e R s0 m args below meth c Q opsS ret r q.1 q.2 :=
    okc (ok_aload_n (j := 0) X (by decide +kernel) rfl rfl) (
    okc (ok_getR (ci := 11) (kf := 0) (idx := 10) (C := RX11) (T := TX11) (N := 15) X rfl (by decide) inX11 (by decide) wf_X11_10 (fun _ _ _ => rfl) (by decide +kernel) rfl) (
    okc (ok_getI (ci := 9) (kf := 0) (idx := 178) (C := RX9) (T := TX9) (N := 8) X rfl (by decide) inX9 (by decide) wf_X11_178 (fun _ _ _ => rfl) (by decide +kernel) rfl) (
    okc (ok_ifne (off := 8) X (by decide +kernel) (by decide) rfl) (
    okc (ok_bipush (n := -5) X (by decide +kernel) rfl rfl) (
    okc (ok_goto (off := 14) X (by decide +kernel) (by decide)) (
    okc (ok_aload_n (j := 0) X (by decide +kernel) rfl rfl) (
    okc (ok_getR (ci := 11) (kf := 0) (idx := 10) (C := RX11) (T := TX11) (N := 15) X rfl (by decide) inX11 (by decide) wf_X11_10 (fun _ _ _ => rfl) (by decide +kernel) rfl) (
    okc (ok_aload_n (j := 0) X (by decide +kernel) rfl rfl) (
    okc (ok_getR (ci := 11) (kf := 1) (idx := 19) (C := RX11) (T := TX11) (N := 15) X rfl (by decide) inX11 (by decide) wf_X11_19 (fun _ _ _ => rfl) (by decide +kernel) rfl) (
    okc (ok_callV (ci := 9) (C := RX9) (T := TX9) (N := 8) (Y := (yX9_commander, cX9_commander, 4, (some .int))) X hcal opsS_n md_X9_commander rfl (by decide) rfl wc_X9_commander wl_X11_182 wi_X9 wm_X9_commander wv_X9_commander (by decide +kernel) (hRm 4 (by decide)) (by decide +kernel) rfl) (
    okc (ok_iret hret (by decide +kernel)) (
    okn))))))))))))
noncomputable def es_X11_commands  : List (Nat × En) := [(87, en_X9_commander)]
set_option maxRecDepth 100000 in
set_option maxHeartbeats 4000000 in
theorem eq_X11_commands    (s : SS) : ex (tb_X11_commands (calE (es_X11_commands))) rI [] (fun _ _ _ _ => none) 14 0 [some (.ref 0)] [] s = f_X11_commands  s := by
  rfl
set_option maxRecDepth 100000 in
set_option maxHeartbeats 4000000 in
theorem run_X11_commands {l : Launch} {G : Gm}    (s : SS) (q : (Int32 × SS)) (h : f_X11_commands  s = some q) (D' : Nat) (hD : 1 ≤ D') : RunsM l G (D' + 1) (md 111) (embS s) [.ref 0] (some (.int q.1)) (embS q.2) := by
  rw [md_X11_commands]
  refine runs_I (plainFor_of_name (by decide +kernel)) (Nat.le_of_ble_eq_true rfl) rfl ?_
  intro A p e R s0 m args below meth c Q ad0 hR X hret
  have X : Cx G A RX11 cX11_commands 1 p s0 m args c := X
  have hT := tk_X11_commands X (calE_ok (es := es_X11_commands) (enc (en_X9_commander_ok _ (by omega)) (enn))) (rmD rfl hR) hret
  rw [← eq_X11_commands    s] at h
  refine ex_good hT (fun pc' ls' st' x' hh => ?_) 14 0 _ [] s h
  cases hh

noncomputable def en_X11_commands  : En := fun _ av s k => match av with
  | [.ref r0] => (gd (Nat.beq r0 0) (bI (f_X11_commands  s) k))
  | _ => none
set_option maxRecDepth 100000 in
set_option maxHeartbeats 4000000 in
theorem en_X11_commands_ok {l : Launch} {G : Gm} (D : Nat) (hD : 2 ≤ D) : enOK l G D 111 en_X11_commands := by
  intro ρ av x k r h
  unfold en_X11_commands at h
  split at h
  · obtain ⟨g0, h⟩ := gd_some h
    obtain ⟨q, h1, h2⟩ := bind_of h
    have e0 := beq1 g0
    subst e0
    obtain ⟨D', rfl⟩ : ∃ D', D = D' + 1 := ⟨D - 1, by omega⟩
    exact ⟨_, _, h2, run_X11_commands   _ _ h1 D' (by omega)⟩
  · cases h

/-! HatRank led -/
noncomputable def tb_X11_led (cal : Cal SS) : List (Nat × Ins SS) := [(0, e_aload 0 1), (1, e_getR opsS 11 0 4), (4, e_iload 1 5), (5, e_callV opsS cal 77 1 9 8), (8, e_ifeq 20 11), (11, e_aload 0 12), (12, e_getR opsS 11 10 15), (15, e_iload 1 16), (16, e_ald opsS 100 17), (17, e_goto 21), (20, e_iconst (-1) 21), (21, e_iret)]
set_option maxRecDepth 100000 in
set_option maxHeartbeats 4000000 in
theorem tk_X11_led {ad0 : Nat → Nat} {G : Gm} {A : Nat → Prop} {p : Program} {l : Launch} {e : Env} {R : Room} {s0 : State} {m : MethodId} {args : Array Value} {below : List Frame} {meth : Method} {c : Code} {Q : State → Prop} {ρ : Type} {ret : Option Value → SS → Option ρ} {r : ρ} (X : Cx G A RX11 cX11_led 2 p s0 m args c) {D' : Nat} {cal : Cal SS} (hcal : calOK l G opsS D' cal) (hRm : ∀ k, k ≤ 21 → D' + 1 ≤ R.frames ∧ 8 + (k + 11) + 40 * D' ≤ R.locals) (hret : RetK G A cX11_led 113 6344 ad0 p l e R s0 m args below meth c Q opsS ret r .ireturn okI) : ∀ q ∈ tb_X11_led cal, OKi G A 2 113 6344 ad0 p l e R s0 m args below meth c Q opsS ret r q.1 q.2 :=
    okc (ok_aload_n (j := 0) X (by decide +kernel) rfl rfl) (
    okc (ok_getR (ci := 11) (kf := 0) (idx := 10) (C := RX11) (T := TX11) (N := 15) X rfl (by decide) inX11 (by decide) wf_X11_10 (fun _ _ _ => rfl) (by decide +kernel) rfl) (
    okc (ok_iload_n (j := 1) X (by decide +kernel) rfl rfl) (
    okc (ok_callV (ci := 9) (C := RX9) (T := TX9) (N := 8) (Y := (yX9_hasPerson, cX9_hasPerson, 2, (some .boolean))) X hcal opsS_n md_X9_hasPerson rfl (by decide) rfl wc_X9_hasPerson wl_X11_169 wi_X9 wm_X9_hasPerson wv_X9_hasPerson (by decide +kernel) (hRm 2 (by decide)) (by decide +kernel) rfl) (
    okc (ok_ifeq (off := 12) X (by decide +kernel) (by decide) rfl) (
    okc (ok_aload_n (j := 0) X (by decide +kernel) rfl rfl) (
    okc (ok_getR (ci := 11) (kf := 10) (idx := 85) (C := RX11) (T := TX11) (N := 15) X rfl (by decide) inX11 (by decide) wf_X11_85 (fun _ _ _ => rfl) (by decide +kernel) rfl) (
    okc (ok_iload_n (j := 1) X (by decide +kernel) rfl rfl) (
    okc (ok_iald X (by decide +kernel) rfl) (
    okc (ok_goto (off := 4) X (by decide +kernel) (by decide)) (
    okc (ok_iconst (n := -1) X (by decide +kernel) rfl rfl) (
    okc (ok_iret hret (by decide +kernel)) (
    okn))))))))))))
noncomputable def es_X11_led  : List (Nat × En) := [(77, en_X9_hasPerson)]
set_option maxRecDepth 100000 in
set_option maxHeartbeats 4000000 in
theorem eq_X11_led   (a0 : Int32) (s : SS) : ex (tb_X11_led (calE (es_X11_led))) rI [] (fun _ _ _ _ => none) 14 0 [some (.ref 0), some (.int a0)] [] s = f_X11_led a0 s := by
  rfl
set_option maxRecDepth 100000 in
set_option maxHeartbeats 4000000 in
theorem run_X11_led {l : Launch} {G : Gm}   (a0 : Int32) (s : SS) (q : (Int32 × SS)) (h : f_X11_led a0 s = some q) (D' : Nat) (hD : 1 ≤ D') : RunsM l G (D' + 1) (md 112) (embS s) [.ref 0, .int a0] (some (.int q.1)) (embS q.2) := by
  rw [md_X11_led]
  refine runs_I (plainFor_of_name (by decide +kernel)) (Nat.le_of_ble_eq_true rfl) rfl ?_
  intro A p e R s0 m args below meth c Q ad0 hR X hret
  have X : Cx G A RX11 cX11_led 2 p s0 m args c := X
  have hT := tk_X11_led X (calE_ok (es := es_X11_led) (enc (en_X9_hasPerson_ok _ (by omega)) (enn))) (rmD rfl hR) hret
  rw [← eq_X11_led   a0 s] at h
  refine ex_good hT (fun pc' ls' st' x' hh => ?_) 14 0 _ [] s h
  cases hh

noncomputable def en_X11_led  : En := fun _ av s k => match av with
  | [.ref r0, .int a0] => (gd (Nat.beq r0 0) (bI (f_X11_led a0 s) k))
  | _ => none
set_option maxRecDepth 100000 in
set_option maxHeartbeats 4000000 in
theorem en_X11_led_ok {l : Launch} {G : Gm} (D : Nat) (hD : 2 ≤ D) : enOK l G D 112 en_X11_led := by
  intro ρ av x k r h
  unfold en_X11_led at h
  split at h
  · obtain ⟨g0, h⟩ := gd_some h
    obtain ⟨q, h1, h2⟩ := bind_of h
    have e0 := beq1 g0
    subst e0
    obtain ⟨D', rfl⟩ : ∃ D', D = D' + 1 := ⟨D - 1, by omega⟩
    exact ⟨_, _, h2, run_X11_led  _ _ _ h1 D' (by omega)⟩
  · cases h

/-! HatRank mayEnd -/
noncomputable def tb_X11_mayEnd (cal : Cal SS) : List (Nat × Ins SS) := [(0, e_iload 1 1), (1, e_iflt 41 4), (4, e_aload 0 5), (5, e_getR opsS 11 0 8), (8, e_iload 1 9), (9, e_iconst (100) 11), (11, e_div aDiv 12), (12, e_callV opsS cal 78 1 9 15), (15, e_ifeq 41 18), (18, e_iload 1 19), (19, e_iconst (100) 21), (21, e_div aRem 22), (22, e_aload 0 23), (23, e_getR opsS 11 1 26), (26, e_getI opsS 2 3 29), (29, e_iconst (23) 31), (31, e_callS cal 136 3 34), (34, e_ifeq 41 37), (37, e_iconst (1) 38), (38, e_goto 42), (41, e_iconst (0) 42), (42, e_zret)]
set_option maxRecDepth 100000 in
set_option maxHeartbeats 4000000 in
theorem tk_X11_mayEnd {ad0 : Nat → Nat} {G : Gm} {A : Nat → Prop} {p : Program} {l : Launch} {e : Env} {R : Room} {s0 : State} {m : MethodId} {args : Array Value} {below : List Frame} {meth : Method} {c : Code} {Q : State → Prop} {ρ : Type} {ret : Option Value → SS → Option ρ} {r : ρ} (X : Cx G A RX11 cX11_mayEnd 2 p s0 m args c) {D' : Nat} {cal : Cal SS} (hcal : calOK l G opsS D' cal) (hRm : ∀ k, k ≤ 21 → D' + 1 ≤ R.frames ∧ 8 + (k + 11) + 40 * D' ≤ R.locals) (hret : RetK G A cX11_mayEnd 113 6344 ad0 p l e R s0 m args below meth c Q opsS ret r .ireturn okZ) : ∀ q ∈ tb_X11_mayEnd cal, OKi G A 2 113 6344 ad0 p l e R s0 m args below meth c Q opsS ret r q.1 q.2 :=
    okc (ok_iload_n (j := 1) X (by decide +kernel) rfl rfl) (
    okc (ok_iflt (off := 40) X (by decide +kernel) (by decide) rfl) (
    okc (ok_aload_n (j := 0) X (by decide +kernel) rfl rfl) (
    okc (ok_getR (ci := 11) (kf := 0) (idx := 10) (C := RX11) (T := TX11) (N := 15) X rfl (by decide) inX11 (by decide) wf_X11_10 (fun _ _ _ => rfl) (by decide +kernel) rfl) (
    okc (ok_iload_n (j := 1) X (by decide +kernel) rfl rfl) (
    okc (ok_bipush (n := 100) X (by decide +kernel) rfl rfl) (
    okc (ok_idiv X (by decide +kernel) rfl) (
    okc (ok_callV (ci := 9) (C := RX9) (T := TX9) (N := 8) (Y := (yX9_hasPlace, cX9_hasPlace, 2, (some .boolean))) X hcal opsS_n md_X9_hasPlace rfl (by decide) rfl wc_X9_hasPlace wl_X11_100 wi_X9 wm_X9_hasPlace wv_X9_hasPlace (by decide +kernel) (hRm 2 (by decide)) (by decide +kernel) rfl) (
    okc (ok_ifeq (off := 26) X (by decide +kernel) (by decide) rfl) (
    okc (ok_iload_n (j := 1) X (by decide +kernel) rfl rfl) (
    okc (ok_bipush (n := 100) X (by decide +kernel) rfl rfl) (
    okc (ok_irem X (by decide +kernel) rfl) (
    okc (ok_aload_n (j := 0) X (by decide +kernel) rfl rfl) (
    okc (ok_getR (ci := 11) (kf := 1) (idx := 19) (C := RX11) (T := TX11) (N := 15) X rfl (by decide) inX11 (by decide) wf_X11_19 (fun _ _ _ => rfl) (by decide +kernel) rfl) (
    okc (ok_getI (ci := 2) (kf := 3) (idx := 194) (C := RX2) (T := TX2) (N := 4) X rfl (by decide) inX2 (by decide) wf_X11_194 (fun _ _ _ => rfl) (by decide +kernel) rfl) (
    okc (ok_bipush (n := 23) X (by decide +kernel) rfl rfl) (
    okc (ok_callS (Y := (yX11_within, cX11_within, 3, (some .boolean))) X hcal opsS_n md_X11_within wc_X11_within wl_X11_92 wi_X11 ws_X11_within (by decide +kernel) (hRm 3 (by decide)) (by decide +kernel) rfl) (
    okc (ok_ifeq (off := 7) X (by decide +kernel) (by decide) rfl) (
    okc (ok_iconst (n := 1) X (by decide +kernel) rfl rfl) (
    okc (ok_goto (off := 4) X (by decide +kernel) (by decide)) (
    okc (ok_iconst (n := 0) X (by decide +kernel) rfl rfl) (
    okc (ok_zret hret (by decide +kernel)) (
    okn))))))))))))))))))))))
noncomputable def es_X11_mayEnd  : List (Nat × En) := [(78, en_X9_hasPlace), (136, en_X11_within)]
set_option maxRecDepth 100000 in
set_option maxHeartbeats 4000000 in
theorem eq_X11_mayEnd   (a0 : Int32) (s : SS) : ex (tb_X11_mayEnd (calE (es_X11_mayEnd))) rI [] (fun _ _ _ _ => none) 24 0 [some (.ref 0), some (.int a0)] [] s = f_X11_mayEnd a0 s := by
  rfl
set_option maxRecDepth 100000 in
set_option maxHeartbeats 4000000 in
theorem run_X11_mayEnd {l : Launch} {G : Gm}   (a0 : Int32) (s : SS) (q : (Int32 × SS)) (h : f_X11_mayEnd a0 s = some q) (D' : Nat) (hD : 1 ≤ D') : RunsM l G (D' + 1) (md 140) (embS s) [.ref 0, .int a0] (some (.int q.1)) (embS q.2) := by
  rw [md_X11_mayEnd]
  refine runs_Z (plainFor_of_name (by decide +kernel)) (Nat.le_of_ble_eq_true rfl) rfl ?_
  intro A p e R s0 m args below meth c Q ad0 hR X hret
  have X : Cx G A RX11 cX11_mayEnd 2 p s0 m args c := X
  have hT := tk_X11_mayEnd X (calE_ok (es := es_X11_mayEnd) (enc (en_X9_hasPlace_ok _ (by omega)) (enc (en_X11_within_ok _ (by omega)) (enn)))) (rmD rfl hR) hret
  rw [← eq_X11_mayEnd   a0 s] at h
  refine ex_good hT (fun pc' ls' st' x' hh => ?_) 24 0 _ [] s h
  cases hh

noncomputable def en_X11_mayEnd  : En := fun _ av s k => match av with
  | [.ref r0, .int a0] => (gd (Nat.beq r0 0) (bI (f_X11_mayEnd a0 s) k))
  | _ => none
set_option maxRecDepth 100000 in
set_option maxHeartbeats 4000000 in
theorem en_X11_mayEnd_ok {l : Launch} {G : Gm} (D : Nat) (hD : 2 ≤ D) : enOK l G D 140 en_X11_mayEnd := by
  intro ρ av x k r h
  unfold en_X11_mayEnd at h
  split at h
  · obtain ⟨g0, h⟩ := gd_some h
    obtain ⟨q, h1, h2⟩ := bind_of h
    have e0 := beq1 g0
    subst e0
    obtain ⟨D', rfl⟩ : ∃ D', D = D' + 1 := ⟨D - 1, by omega⟩
    exact ⟨_, _, h2, run_X11_mayEnd  _ _ _ h1 D' (by omega)⟩
  · cases h

/-! HatRank risk -/
noncomputable def tb_X11_risk (cal : Cal SS) : List (Nat × Ins SS) := [(0, e_aload 0 1), (1, e_getR opsS 11 0 4), (4, e_iload 1 5), (5, e_callV opsS cal 77 1 9 8), (8, e_ifeq 19 11), (11, e_aload 0 12), (12, e_iload 2 13), (13, e_callV opsS cal 140 1 11 16), (16, e_ifne 21 19), (19, e_iconst (-1) 20), (20, e_iret), (21, e_aload 0 22), (22, e_getR opsS 11 6 25), (25, e_aload 0 26), (26, e_getR opsS 11 1 29), (29, e_iload 1 30), (30, e_iload 2 31), (31, e_iconst (100) 33), (33, e_div aDiv 34), (34, e_iload 2 35), (35, e_iconst (100) 37), (37, e_div aRem 38), (38, e_callV opsS cal 42 4 6 41), (41, e_istore 3 42), (42, e_iload 3 43), (43, e_iconst (1000000) 45), (45, e_cge 52 48), (48, e_iload 3 49), (49, e_goto 54), (52, e_iconst (-2) 54), (54, e_iret)]
set_option maxRecDepth 100000 in
set_option maxHeartbeats 4000000 in
theorem tk_X11_risk {ad0 : Nat → Nat} {G : Gm} {A : Nat → Prop} {p : Program} {l : Launch} {e : Env} {R : Room} {s0 : State} {m : MethodId} {args : Array Value} {below : List Frame} {meth : Method} {c : Code} {Q : State → Prop} {ρ : Type} {ret : Option Value → SS → Option ρ} {r : ρ} (X : Cx G A RX11 cX11_risk 4 p s0 m args c) {D' : Nat} {cal : Cal SS} (hcal : calOK l G opsS D' cal) (hRm : ∀ k, k ≤ 21 → D' + 1 ≤ R.frames ∧ 8 + (k + 11) + 40 * D' ≤ R.locals) (hret : RetK G A cX11_risk 113 6344 ad0 p l e R s0 m args below meth c Q opsS ret r .ireturn okI) : ∀ q ∈ tb_X11_risk cal, OKi G A 4 113 6344 ad0 p l e R s0 m args below meth c Q opsS ret r q.1 q.2 :=
    okc (ok_aload_n (j := 0) X (by decide +kernel) rfl rfl) (
    okc (ok_getR (ci := 11) (kf := 0) (idx := 10) (C := RX11) (T := TX11) (N := 15) X rfl (by decide) inX11 (by decide) wf_X11_10 (fun _ _ _ => rfl) (by decide +kernel) rfl) (
    okc (ok_iload_n (j := 1) X (by decide +kernel) rfl rfl) (
    okc (ok_callV (ci := 9) (C := RX9) (T := TX9) (N := 8) (Y := (yX9_hasPerson, cX9_hasPerson, 2, (some .boolean))) X hcal opsS_n md_X9_hasPerson rfl (by decide) rfl wc_X9_hasPerson wl_X11_169 wi_X9 wm_X9_hasPerson wv_X9_hasPerson (by decide +kernel) (hRm 2 (by decide)) (by decide +kernel) rfl) (
    okc (ok_ifeq (off := 11) X (by decide +kernel) (by decide) rfl) (
    okc (ok_aload_n (j := 0) X (by decide +kernel) rfl rfl) (
    okc (ok_iload_n (j := 2) X (by decide +kernel) rfl rfl) (
    okc (ok_callV (ci := 11) (C := RX11) (T := TX11) (N := 15) (Y := (yX11_mayEnd, cX11_mayEnd, 2, (some .boolean))) X hcal opsS_n md_X11_mayEnd rfl (by decide) rfl wc_X11_mayEnd wl_X11_186 wi_X11 wm_X11_mayEnd wv_X11_mayEnd (by decide +kernel) (hRm 2 (by decide)) (by decide +kernel) rfl) (
    okc (ok_ifne (off := 5) X (by decide +kernel) (by decide) rfl) (
    okc (ok_iconst (n := -1) X (by decide +kernel) rfl rfl) (
    okc (ok_iret hret (by decide +kernel)) (
    okc (ok_aload_n (j := 0) X (by decide +kernel) rfl rfl) (
    okc (ok_getR (ci := 11) (kf := 6) (idx := 60) (C := RX11) (T := TX11) (N := 15) X rfl (by decide) inX11 (by decide) wf_X11_60 (fun _ _ _ => rfl) (by decide +kernel) rfl) (
    okc (ok_aload_n (j := 0) X (by decide +kernel) rfl rfl) (
    okc (ok_getR (ci := 11) (kf := 1) (idx := 19) (C := RX11) (T := TX11) (N := 15) X rfl (by decide) inX11 (by decide) wf_X11_19 (fun _ _ _ => rfl) (by decide +kernel) rfl) (
    okc (ok_iload_n (j := 1) X (by decide +kernel) rfl rfl) (
    okc (ok_iload_n (j := 2) X (by decide +kernel) rfl rfl) (
    okc (ok_bipush (n := 100) X (by decide +kernel) rfl rfl) (
    okc (ok_idiv X (by decide +kernel) rfl) (
    okc (ok_iload_n (j := 2) X (by decide +kernel) rfl rfl) (
    okc (ok_bipush (n := 100) X (by decide +kernel) rfl rfl) (
    okc (ok_irem X (by decide +kernel) rfl) (
    okc (ok_callV (ci := 6) (C := RX6) (T := TX6) (N := 3) (Y := (yX6_measure, cX6_measure, 9, (some .int))) X hcal opsS_n md_X6_measure rfl (by decide) rfl wc_X6_measure wl_X11_189 wi_X6 wm_X6_measure wv_X6_measure (by decide +kernel) (hRm 9 (by decide)) (by decide +kernel) rfl) (
    okc (ok_istore_n (j := 3) X (by decide +kernel) rfl rfl) (
    okc (ok_iload_n (j := 3) X (by decide +kernel) rfl rfl) (
    okc (ok_ldc (i := 193) X (by decide +kernel) wk_X11_193 rfl) (
    okc (ok_cge (off := 7) X (by decide +kernel) (by decide) rfl) (
    okc (ok_iload_n (j := 3) X (by decide +kernel) rfl rfl) (
    okc (ok_goto (off := 5) X (by decide +kernel) (by decide)) (
    okc (ok_bipush (n := -2) X (by decide +kernel) rfl rfl) (
    okc (ok_iret hret (by decide +kernel)) (
    okn)))))))))))))))))))))))))))))))
noncomputable def es_X11_risk  : List (Nat × En) := [(77, en_X9_hasPerson), (140, en_X11_mayEnd), (42, en_X6_measure)]
set_option maxRecDepth 100000 in
set_option maxHeartbeats 4000000 in
theorem eq_X11_risk   (a0 : Int32) (a1 : Int32) (s : SS) : ex (tb_X11_risk (calE (es_X11_risk))) rI [] (fun _ _ _ _ => none) 33 0 [some (.ref 0), some (.int a0), some (.int a1), none] [] s = f_X11_risk a0 a1 s := by
  rfl
set_option maxRecDepth 100000 in
set_option maxHeartbeats 4000000 in
theorem run_X11_risk {l : Launch} {G : Gm}   (a0 : Int32) (a1 : Int32) (s : SS) (q : (Int32 × SS)) (h : f_X11_risk a0 a1 s = some q) (D' : Nat) (hD : 4 ≤ D') : RunsM l G (D' + 1) (md 113) (embS s) [.ref 0, .int a0, .int a1] (some (.int q.1)) (embS q.2) := by
  rw [md_X11_risk]
  refine runs_I (plainFor_of_name (by decide +kernel)) (Nat.le_of_ble_eq_true rfl) rfl ?_
  intro A p e R s0 m args below meth c Q ad0 hR X hret
  have X : Cx G A RX11 cX11_risk 4 p s0 m args c := X
  have hT := tk_X11_risk X (calE_ok (es := es_X11_risk) (enc (en_X9_hasPerson_ok _ (by omega)) (enc (en_X11_mayEnd_ok _ (by omega)) (enc (en_X6_measure_ok _ (by omega)) (enn))))) (rmD rfl hR) hret
  rw [← eq_X11_risk   a0 a1 s] at h
  refine ex_good hT (fun pc' ls' st' x' hh => ?_) 33 0 _ [] s h
  cases hh

noncomputable def en_X11_risk  : En := fun _ av s k => match av with
  | [.ref r0, .int a0, .int a1] => (gd (Nat.beq r0 0) (bI (f_X11_risk a0 a1 s) k))
  | _ => none
set_option maxRecDepth 100000 in
set_option maxHeartbeats 4000000 in
theorem en_X11_risk_ok {l : Launch} {G : Gm} (D : Nat) (hD : 5 ≤ D) : enOK l G D 113 en_X11_risk := by
  intro ρ av x k r h
  unfold en_X11_risk at h
  split at h
  · obtain ⟨g0, h⟩ := gd_some h
    obtain ⟨q, h1, h2⟩ := bind_of h
    have e0 := beq1 g0
    subst e0
    obtain ⟨D', rfl⟩ : ∃ D', D = D' + 1 := ⟨D - 1, by omega⟩
    exact ⟨_, _, h2, run_X11_risk  _ _ _ _ h1 D' (by omega)⟩
  · cases h

/-! HatRank walk -/
noncomputable def tb_X11_walk (cal : Cal SS) : List (Nat × Ins SS) := [(0, e_aload 0 1), (1, e_getR opsS 11 0 4), (4, e_iload 1 5), (5, e_callV opsS cal 77 1 9 8), (8, e_ifeq 37 11), (11, e_aload 0 12), (12, e_iload 2 13), (13, e_callV opsS cal 140 1 11 16), (16, e_ifeq 37 19), (19, e_iload 3 20), (20, e_aload 0 21), (21, e_getR opsS 11 1 24), (24, e_getI opsS 2 3 27), (27, e_iload 2 28), (28, e_iconst (100) 30), (30, e_div aRem 31), (31, e_callS cal 136 3 34), (34, e_ifne 39 37), (37, e_iconst (-1) 38), (38, e_iret), (39, e_aload 0 40), (40, e_getR opsS 11 6 43), (43, e_aload 0 44), (44, e_getR opsS 11 1 47), (47, e_iload 1 48), (48, e_iload 2 49), (49, e_iconst (100) 51), (51, e_div aDiv 52), (52, e_iload 2 53), (53, e_iconst (100) 55), (55, e_div aRem 56), (56, e_callV opsS cal 42 4 6 59), (59, e_istore 4 61), (61, e_iload 4 63), (63, e_iconst (1000000) 65), (65, e_cge 84 68), (68, e_aload 0 69), (69, e_getR opsS 11 6 72), (72, e_aload 0 73), (73, e_getR opsS 11 1 76), (76, e_iload 1 77), (77, e_iload 3 78), (78, e_callV opsS cal 43 3 6 81), (81, e_goto 86), (84, e_iconst (-2) 86), (86, e_iret)]
set_option maxRecDepth 100000 in
set_option maxHeartbeats 4000000 in
theorem tk_X11_walk {ad0 : Nat → Nat} {G : Gm} {A : Nat → Prop} {p : Program} {l : Launch} {e : Env} {R : Room} {s0 : State} {m : MethodId} {args : Array Value} {below : List Frame} {meth : Method} {c : Code} {Q : State → Prop} {ρ : Type} {ret : Option Value → SS → Option ρ} {r : ρ} (X : Cx G A RX11 cX11_walk 5 p s0 m args c) {D' : Nat} {cal : Cal SS} (hcal : calOK l G opsS D' cal) (hRm : ∀ k, k ≤ 21 → D' + 1 ≤ R.frames ∧ 8 + (k + 11) + 40 * D' ≤ R.locals) (hret : RetK G A cX11_walk 113 6344 ad0 p l e R s0 m args below meth c Q opsS ret r .ireturn okI) : ∀ q ∈ tb_X11_walk cal, OKi G A 5 113 6344 ad0 p l e R s0 m args below meth c Q opsS ret r q.1 q.2 :=
    okc (ok_aload_n (j := 0) X (by decide +kernel) rfl rfl) (
    okc (ok_getR (ci := 11) (kf := 0) (idx := 10) (C := RX11) (T := TX11) (N := 15) X rfl (by decide) inX11 (by decide) wf_X11_10 (fun _ _ _ => rfl) (by decide +kernel) rfl) (
    okc (ok_iload_n (j := 1) X (by decide +kernel) rfl rfl) (
    okc (ok_callV (ci := 9) (C := RX9) (T := TX9) (N := 8) (Y := (yX9_hasPerson, cX9_hasPerson, 2, (some .boolean))) X hcal opsS_n md_X9_hasPerson rfl (by decide) rfl wc_X9_hasPerson wl_X11_169 wi_X9 wm_X9_hasPerson wv_X9_hasPerson (by decide +kernel) (hRm 2 (by decide)) (by decide +kernel) rfl) (
    okc (ok_ifeq (off := 29) X (by decide +kernel) (by decide) rfl) (
    okc (ok_aload_n (j := 0) X (by decide +kernel) rfl rfl) (
    okc (ok_iload_n (j := 2) X (by decide +kernel) rfl rfl) (
    okc (ok_callV (ci := 11) (C := RX11) (T := TX11) (N := 15) (Y := (yX11_mayEnd, cX11_mayEnd, 2, (some .boolean))) X hcal opsS_n md_X11_mayEnd rfl (by decide) rfl wc_X11_mayEnd wl_X11_186 wi_X11 wm_X11_mayEnd wv_X11_mayEnd (by decide +kernel) (hRm 2 (by decide)) (by decide +kernel) rfl) (
    okc (ok_ifeq (off := 21) X (by decide +kernel) (by decide) rfl) (
    okc (ok_iload_n (j := 3) X (by decide +kernel) rfl rfl) (
    okc (ok_aload_n (j := 0) X (by decide +kernel) rfl rfl) (
    okc (ok_getR (ci := 11) (kf := 1) (idx := 19) (C := RX11) (T := TX11) (N := 15) X rfl (by decide) inX11 (by decide) wf_X11_19 (fun _ _ _ => rfl) (by decide +kernel) rfl) (
    okc (ok_getI (ci := 2) (kf := 3) (idx := 194) (C := RX2) (T := TX2) (N := 4) X rfl (by decide) inX2 (by decide) wf_X11_194 (fun _ _ _ => rfl) (by decide +kernel) rfl) (
    okc (ok_iload_n (j := 2) X (by decide +kernel) rfl rfl) (
    okc (ok_bipush (n := 100) X (by decide +kernel) rfl rfl) (
    okc (ok_irem X (by decide +kernel) rfl) (
    okc (ok_callS (Y := (yX11_within, cX11_within, 3, (some .boolean))) X hcal opsS_n md_X11_within wc_X11_within wl_X11_92 wi_X11 ws_X11_within (by decide +kernel) (hRm 3 (by decide)) (by decide +kernel) rfl) (
    okc (ok_ifne (off := 5) X (by decide +kernel) (by decide) rfl) (
    okc (ok_iconst (n := -1) X (by decide +kernel) rfl rfl) (
    okc (ok_iret hret (by decide +kernel)) (
    okc (ok_aload_n (j := 0) X (by decide +kernel) rfl rfl) (
    okc (ok_getR (ci := 11) (kf := 6) (idx := 60) (C := RX11) (T := TX11) (N := 15) X rfl (by decide) inX11 (by decide) wf_X11_60 (fun _ _ _ => rfl) (by decide +kernel) rfl) (
    okc (ok_aload_n (j := 0) X (by decide +kernel) rfl rfl) (
    okc (ok_getR (ci := 11) (kf := 1) (idx := 19) (C := RX11) (T := TX11) (N := 15) X rfl (by decide) inX11 (by decide) wf_X11_19 (fun _ _ _ => rfl) (by decide +kernel) rfl) (
    okc (ok_iload_n (j := 1) X (by decide +kernel) rfl rfl) (
    okc (ok_iload_n (j := 2) X (by decide +kernel) rfl rfl) (
    okc (ok_bipush (n := 100) X (by decide +kernel) rfl rfl) (
    okc (ok_idiv X (by decide +kernel) rfl) (
    okc (ok_iload_n (j := 2) X (by decide +kernel) rfl rfl) (
    okc (ok_bipush (n := 100) X (by decide +kernel) rfl rfl) (
    okc (ok_irem X (by decide +kernel) rfl) (
    okc (ok_callV (ci := 6) (C := RX6) (T := TX6) (N := 3) (Y := (yX6_measure, cX6_measure, 9, (some .int))) X hcal opsS_n md_X6_measure rfl (by decide) rfl wc_X6_measure wl_X11_189 wi_X6 wm_X6_measure wv_X6_measure (by decide +kernel) (hRm 9 (by decide)) (by decide +kernel) rfl) (
    okc (ok_istore X (by decide +kernel) rfl) (
    okc (ok_iload X (by decide +kernel) rfl) (
    okc (ok_ldc (i := 193) X (by decide +kernel) wk_X11_193 rfl) (
    okc (ok_cge (off := 19) X (by decide +kernel) (by decide) rfl) (
    okc (ok_aload_n (j := 0) X (by decide +kernel) rfl rfl) (
    okc (ok_getR (ci := 11) (kf := 6) (idx := 60) (C := RX11) (T := TX11) (N := 15) X rfl (by decide) inX11 (by decide) wf_X11_60 (fun _ _ _ => rfl) (by decide +kernel) rfl) (
    okc (ok_aload_n (j := 0) X (by decide +kernel) rfl rfl) (
    okc (ok_getR (ci := 11) (kf := 1) (idx := 19) (C := RX11) (T := TX11) (N := 15) X rfl (by decide) inX11 (by decide) wf_X11_19 (fun _ _ _ => rfl) (by decide +kernel) rfl) (
    okc (ok_iload_n (j := 1) X (by decide +kernel) rfl rfl) (
    okc (ok_iload_n (j := 3) X (by decide +kernel) rfl rfl) (
    okc (ok_callV (ci := 6) (C := RX6) (T := TX6) (N := 3) (Y := (yX6_follow, cX6_follow, 6, (some .int))) X hcal opsS_n md_X6_follow rfl (by decide) rfl wc_X6_follow wl_X11_197 wi_X6 wm_X6_follow wv_X6_follow (by decide +kernel) (hRm 6 (by decide)) (by decide +kernel) rfl) (
    okc (ok_goto (off := 5) X (by decide +kernel) (by decide)) (
    okc (ok_bipush (n := -2) X (by decide +kernel) rfl rfl) (
    okc (ok_iret hret (by decide +kernel)) (
    okn))))))))))))))))))))))))))))))))))))))))))))))
noncomputable def es_X11_walk  : List (Nat × En) := [(77, en_X9_hasPerson), (140, en_X11_mayEnd), (136, en_X11_within), (42, en_X6_measure), (43, en_X6_follow)]
set_option maxRecDepth 100000 in
set_option maxHeartbeats 4000000 in
theorem eq_X11_walk   (a0 : Int32) (a1 : Int32) (a2 : Int32) (s : SS) : ex (tb_X11_walk (calE (es_X11_walk))) rI [] (fun _ _ _ _ => none) 48 0 [some (.ref 0), some (.int a0), some (.int a1), some (.int a2), none] [] s = f_X11_walk a0 a1 a2 s := by
  rfl
set_option maxRecDepth 100000 in
set_option maxHeartbeats 4000000 in
theorem run_X11_walk {l : Launch} {G : Gm}   (a0 : Int32) (a1 : Int32) (a2 : Int32) (s : SS) (q : (Int32 × SS)) (h : f_X11_walk a0 a1 a2 s = some q) (D' : Nat) (hD : 4 ≤ D') : RunsM l G (D' + 1) (md 114) (embS s) [.ref 0, .int a0, .int a1, .int a2] (some (.int q.1)) (embS q.2) := by
  rw [md_X11_walk]
  refine runs_I (plainFor_of_name (by decide +kernel)) (Nat.le_of_ble_eq_true rfl) rfl ?_
  intro A p e R s0 m args below meth c Q ad0 hR X hret
  have X : Cx G A RX11 cX11_walk 5 p s0 m args c := X
  have hT := tk_X11_walk X (calE_ok (es := es_X11_walk) (enc (en_X9_hasPerson_ok _ (by omega)) (enc (en_X11_mayEnd_ok _ (by omega)) (enc (en_X11_within_ok _ (by omega)) (enc (en_X6_measure_ok _ (by omega)) (enc (en_X6_follow_ok _ (by omega)) (enn))))))) (rmD rfl hR) hret
  rw [← eq_X11_walk   a0 a1 a2 s] at h
  refine ex_good hT (fun pc' ls' st' x' hh => ?_) 48 0 _ [] s h
  cases hh

noncomputable def en_X11_walk  : En := fun _ av s k => match av with
  | [.ref r0, .int a0, .int a1, .int a2] => (gd (Nat.beq r0 0) (bI (f_X11_walk a0 a1 a2 s) k))
  | _ => none
set_option maxRecDepth 100000 in
set_option maxHeartbeats 4000000 in
theorem en_X11_walk_ok {l : Launch} {G : Gm} (D : Nat) (hD : 5 ≤ D) : enOK l G D 114 en_X11_walk := by
  intro ρ av x k r h
  unfold en_X11_walk at h
  split at h
  · obtain ⟨g0, h⟩ := gd_some h
    obtain ⟨q, h1, h2⟩ := bind_of h
    have e0 := beq1 g0
    subst e0
    obtain ⟨D', rfl⟩ : ∃ D', D = D' + 1 := ⟨D - 1, by omega⟩
    exact ⟨_, _, h2, run_X11_walk  _ _ _ _ _ h1 D' (by omega)⟩
  · cases h

/-! HatRank mayThink -/
noncomputable def tb_X11_mayThink (cal : Cal SS) : List (Nat × Ins SS) := [(0, e_aload 0 1), (1, e_getR opsS 11 0 4), (4, e_iload 1 5), (5, e_callV opsS cal 77 1 9 8), (8, e_ifeq 24 11), (11, e_iload 2 12), (12, e_iconst (0) 13), (13, e_iconst (2) 14), (14, e_callS cal 136 3 17), (17, e_ifeq 24 20), (20, e_iconst (1) 21), (21, e_goto 25), (24, e_iconst (0) 25), (25, e_zret)]
set_option maxRecDepth 100000 in
set_option maxHeartbeats 4000000 in
theorem tk_X11_mayThink {ad0 : Nat → Nat} {G : Gm} {A : Nat → Prop} {p : Program} {l : Launch} {e : Env} {R : Room} {s0 : State} {m : MethodId} {args : Array Value} {below : List Frame} {meth : Method} {c : Code} {Q : State → Prop} {ρ : Type} {ret : Option Value → SS → Option ρ} {r : ρ} (X : Cx G A RX11 cX11_mayThink 3 p s0 m args c) {D' : Nat} {cal : Cal SS} (hcal : calOK l G opsS D' cal) (hRm : ∀ k, k ≤ 21 → D' + 1 ≤ R.frames ∧ 8 + (k + 11) + 40 * D' ≤ R.locals) (hret : RetK G A cX11_mayThink 113 6344 ad0 p l e R s0 m args below meth c Q opsS ret r .ireturn okZ) : ∀ q ∈ tb_X11_mayThink cal, OKi G A 3 113 6344 ad0 p l e R s0 m args below meth c Q opsS ret r q.1 q.2 :=
    okc (ok_aload_n (j := 0) X (by decide +kernel) rfl rfl) (
    okc (ok_getR (ci := 11) (kf := 0) (idx := 10) (C := RX11) (T := TX11) (N := 15) X rfl (by decide) inX11 (by decide) wf_X11_10 (fun _ _ _ => rfl) (by decide +kernel) rfl) (
    okc (ok_iload_n (j := 1) X (by decide +kernel) rfl rfl) (
    okc (ok_callV (ci := 9) (C := RX9) (T := TX9) (N := 8) (Y := (yX9_hasPerson, cX9_hasPerson, 2, (some .boolean))) X hcal opsS_n md_X9_hasPerson rfl (by decide) rfl wc_X9_hasPerson wl_X11_169 wi_X9 wm_X9_hasPerson wv_X9_hasPerson (by decide +kernel) (hRm 2 (by decide)) (by decide +kernel) rfl) (
    okc (ok_ifeq (off := 16) X (by decide +kernel) (by decide) rfl) (
    okc (ok_iload_n (j := 2) X (by decide +kernel) rfl rfl) (
    okc (ok_iconst (n := 0) X (by decide +kernel) rfl rfl) (
    okc (ok_iconst (n := 2) X (by decide +kernel) rfl rfl) (
    okc (ok_callS (Y := (yX11_within, cX11_within, 3, (some .boolean))) X hcal opsS_n md_X11_within wc_X11_within wl_X11_92 wi_X11 ws_X11_within (by decide +kernel) (hRm 3 (by decide)) (by decide +kernel) rfl) (
    okc (ok_ifeq (off := 7) X (by decide +kernel) (by decide) rfl) (
    okc (ok_iconst (n := 1) X (by decide +kernel) rfl rfl) (
    okc (ok_goto (off := 4) X (by decide +kernel) (by decide)) (
    okc (ok_iconst (n := 0) X (by decide +kernel) rfl rfl) (
    okc (ok_zret hret (by decide +kernel)) (
    okn))))))))))))))
noncomputable def es_X11_mayThink  : List (Nat × En) := [(77, en_X9_hasPerson), (136, en_X11_within)]
set_option maxRecDepth 100000 in
set_option maxHeartbeats 4000000 in
theorem eq_X11_mayThink   (a0 : Int32) (a1 : Int32) (s : SS) : ex (tb_X11_mayThink (calE (es_X11_mayThink))) rI [] (fun _ _ _ _ => none) 16 0 [some (.ref 0), some (.int a0), some (.int a1)] [] s = f_X11_mayThink a0 a1 s := by
  rfl
set_option maxRecDepth 100000 in
set_option maxHeartbeats 4000000 in
theorem run_X11_mayThink {l : Launch} {G : Gm}   (a0 : Int32) (a1 : Int32) (s : SS) (q : (Int32 × SS)) (h : f_X11_mayThink a0 a1 s = some q) (D' : Nat) (hD : 1 ≤ D') : RunsM l G (D' + 1) (md 138) (embS s) [.ref 0, .int a0, .int a1] (some (.int q.1)) (embS q.2) := by
  rw [md_X11_mayThink]
  refine runs_Z (plainFor_of_name (by decide +kernel)) (Nat.le_of_ble_eq_true rfl) rfl ?_
  intro A p e R s0 m args below meth c Q ad0 hR X hret
  have X : Cx G A RX11 cX11_mayThink 3 p s0 m args c := X
  have hT := tk_X11_mayThink X (calE_ok (es := es_X11_mayThink) (enc (en_X9_hasPerson_ok _ (by omega)) (enc (en_X11_within_ok _ (by omega)) (enn)))) (rmD rfl hR) hret
  rw [← eq_X11_mayThink   a0 a1 s] at h
  refine ex_good hT (fun pc' ls' st' x' hh => ?_) 16 0 _ [] s h
  cases hh

noncomputable def en_X11_mayThink  : En := fun _ av s k => match av with
  | [.ref r0, .int a0, .int a1] => (gd (Nat.beq r0 0) (bI (f_X11_mayThink a0 a1 s) k))
  | _ => none
set_option maxRecDepth 100000 in
set_option maxHeartbeats 4000000 in
theorem en_X11_mayThink_ok {l : Launch} {G : Gm} (D : Nat) (hD : 2 ≤ D) : enOK l G D 138 en_X11_mayThink := by
  intro ρ av x k r h
  unfold en_X11_mayThink at h
  split at h
  · obtain ⟨g0, h⟩ := gd_some h
    obtain ⟨q, h1, h2⟩ := bind_of h
    have e0 := beq1 g0
    subst e0
    obtain ⟨D', rfl⟩ : ∃ D', D = D' + 1 := ⟨D - 1, by omega⟩
    exact ⟨_, _, h2, run_X11_mayThink  _ _ _ _ h1 D' (by omega)⟩
  · cases h

/-! HatRank fractionRefusal -/
noncomputable def tb_X11_fractionRefusal (cal : Cal SS) : List (Nat × Ins SS) := [(0, e_aload 0 1), (1, e_iload 1 2), (2, e_iload 2 3), (3, e_callV opsS cal 138 2 11 6), (6, e_ifeq 18 9), (9, e_iload 3 10), (10, e_iconst (0) 11), (11, e_iconst (1) 12), (12, e_callS cal 136 3 15), (15, e_ifne 22 18), (18, e_lconst (-9223372036854775808) 21), (21, e_lret), (22, e_iload 2 23), (23, e_aload 0 24), (24, e_callV opsS cal 137 0 11 27), (27, e_cle 36 30), (30, e_lconst (-5) 33), (33, e_goto 37), (36, e_lconst (0) 37), (37, e_lret)]
set_option maxRecDepth 100000 in
set_option maxHeartbeats 4000000 in
theorem tk_X11_fractionRefusal {ad0 : Nat → Nat} {G : Gm} {A : Nat → Prop} {p : Program} {l : Launch} {e : Env} {R : Room} {s0 : State} {m : MethodId} {args : Array Value} {below : List Frame} {meth : Method} {c : Code} {Q : State → Prop} {ρ : Type} {ret : Option Value → SS → Option ρ} {r : ρ} (X : Cx G A RX11 cX11_fractionRefusal 4 p s0 m args c) {D' : Nat} {cal : Cal SS} (hcal : calOK l G opsS D' cal) (hRm : ∀ k, k ≤ 21 → D' + 1 ≤ R.frames ∧ 8 + (k + 11) + 40 * D' ≤ R.locals) (hret : RetK G A cX11_fractionRefusal 113 6344 ad0 p l e R s0 m args below meth c Q opsS ret r .lreturn okL) : ∀ q ∈ tb_X11_fractionRefusal cal, OKi G A 4 113 6344 ad0 p l e R s0 m args below meth c Q opsS ret r q.1 q.2 :=
    okc (ok_aload_n (j := 0) X (by decide +kernel) rfl rfl) (
    okc (ok_iload_n (j := 1) X (by decide +kernel) rfl rfl) (
    okc (ok_iload_n (j := 2) X (by decide +kernel) rfl rfl) (
    okc (ok_callV (ci := 11) (C := RX11) (T := TX11) (N := 15) (Y := (yX11_mayThink, cX11_mayThink, 3, (some .boolean))) X hcal opsS_n md_X11_mayThink rfl (by decide) rfl wc_X11_mayThink wl_X11_223 wi_X11 wm_X11_mayThink wv_X11_mayThink (by decide +kernel) (hRm 3 (by decide)) (by decide +kernel) rfl) (
    okc (ok_ifeq (off := 12) X (by decide +kernel) (by decide) rfl) (
    okc (ok_iload_n (j := 3) X (by decide +kernel) rfl rfl) (
    okc (ok_iconst (n := 0) X (by decide +kernel) rfl rfl) (
    okc (ok_iconst (n := 1) X (by decide +kernel) rfl rfl) (
    okc (ok_callS (Y := (yX11_within, cX11_within, 3, (some .boolean))) X hcal opsS_n md_X11_within wc_X11_within wl_X11_92 wi_X11 ws_X11_within (by decide +kernel) (hRm 3 (by decide)) (by decide +kernel) rfl) (
    okc (ok_ifne (off := 7) X (by decide +kernel) (by decide) rfl) (
    okc (ok_ldc2 (i := 294) X (by decide +kernel) wk_X11_294 rfl) (
    okc (ok_lret hret (by decide +kernel)) (
    okc (ok_iload_n (j := 2) X (by decide +kernel) rfl rfl) (
    okc (ok_aload_n (j := 0) X (by decide +kernel) rfl rfl) (
    okc (ok_callV (ci := 11) (C := RX11) (T := TX11) (N := 15) (Y := (yX11_hoursLeft, cX11_hoursLeft, 1, (some .int))) X hcal opsS_n md_X11_hoursLeft rfl (by decide) rfl wc_X11_hoursLeft wl_X11_157 wi_X11 wm_X11_hoursLeft wv_X11_hoursLeft (by decide +kernel) (hRm 1 (by decide)) (by decide +kernel) rfl) (
    okc (ok_cle (off := 9) X (by decide +kernel) (by decide) rfl) (
    okc (ok_ldc2 (i := 331) X (by decide +kernel) wk_X11_331 rfl) (
    okc (ok_goto (off := 4) X (by decide +kernel) (by decide)) (
    okc (ok_lconst (n := 0) X (by decide +kernel) rfl rfl) (
    okc (ok_lret hret (by decide +kernel)) (
    okn))))))))))))))))))))
noncomputable def es_X11_fractionRefusal  : List (Nat × En) := [(138, en_X11_mayThink), (136, en_X11_within), (137, en_X11_hoursLeft)]
set_option maxRecDepth 100000 in
set_option maxHeartbeats 4000000 in
theorem eq_X11_fractionRefusal   (a0 : Int32) (a1 : Int32) (a2 : Int32) (s : SS) : ex (tb_X11_fractionRefusal (calE (es_X11_fractionRefusal))) rL [] (fun _ _ _ _ => none) 22 0 [some (.ref 0), some (.int a0), some (.int a1), some (.int a2)] [] s = f_X11_fractionRefusal a0 a1 a2 s := by
  rfl
set_option maxRecDepth 100000 in
set_option maxHeartbeats 4000000 in
theorem run_X11_fractionRefusal {l : Launch} {G : Gm}   (a0 : Int32) (a1 : Int32) (a2 : Int32) (s : SS) (q : (Int64 × SS)) (h : f_X11_fractionRefusal a0 a1 a2 s = some q) (D' : Nat) (hD : 2 ≤ D') : RunsM l G (D' + 1) (md 139) (embS s) [.ref 0, .int a0, .int a1, .int a2] (some (.long q.1)) (embS q.2) := by
  rw [md_X11_fractionRefusal]
  refine runs_L (plainFor_of_name (by decide +kernel)) (Nat.le_of_ble_eq_true rfl) rfl ?_
  intro A p e R s0 m args below meth c Q ad0 hR X hret
  have X : Cx G A RX11 cX11_fractionRefusal 4 p s0 m args c := X
  have hT := tk_X11_fractionRefusal X (calE_ok (es := es_X11_fractionRefusal) (enc (en_X11_mayThink_ok _ (by omega)) (enc (en_X11_within_ok _ (by omega)) (enc (en_X11_hoursLeft_ok _ (by omega)) (enn))))) (rmD rfl hR) hret
  rw [← eq_X11_fractionRefusal   a0 a1 a2 s] at h
  refine ex_good hT (fun pc' ls' st' x' hh => ?_) 22 0 _ [] s h
  cases hh

noncomputable def en_X11_fractionRefusal  : En := fun _ av s k => match av with
  | [.ref r0, .int a0, .int a1, .int a2] => (gd (Nat.beq r0 0) (bL (f_X11_fractionRefusal a0 a1 a2 s) k))
  | _ => none
set_option maxRecDepth 100000 in
set_option maxHeartbeats 4000000 in
theorem en_X11_fractionRefusal_ok {l : Launch} {G : Gm} (D : Nat) (hD : 3 ≤ D) : enOK l G D 139 en_X11_fractionRefusal := by
  intro ρ av x k r h
  unfold en_X11_fractionRefusal at h
  split at h
  · obtain ⟨g0, h⟩ := gd_some h
    obtain ⟨q, h1, h2⟩ := bind_of h
    have e0 := beq1 g0
    subst e0
    obtain ⟨D', rfl⟩ : ∃ D', D = D' + 1 := ⟨D - 1, by omega⟩
    exact ⟨_, _, h2, run_X11_fractionRefusal  _ _ _ _ _ h1 D' (by omega)⟩
  · cases h

/-! HatRank commonDivisor -/
noncomputable def tb_X11_commonDivisor (cal : Cal SS) : List (Nat × Ins SS) := [(0, e_lload 0 1), (1, e_lstore 4 3), (3, e_lload 2 4), (4, e_lstore 6 6), (6, e_iconst (0) 7), (7, e_istore 8 9), (9, e_iload 8 11), (11, e_iconst (200) 14), (14, e_cge 45 17), (17, e_lload 6 19), (19, e_lconst (0) 20), (20, e_lcmp 21), (21, e_ifeq 45 24), (24, e_lload 4 26), (26, e_lload 6 28), (28, e_ldiv lRem 29), (29, e_lstore 9 31), (31, e_lload 6 33), (33, e_lstore 4 35), (35, e_lload 9 37), (37, e_lstore 6 39), (39, e_iinc 8 (1) 42), (42, e_goto 9), (45, e_lload 4 47), (47, e_lret)]
set_option maxRecDepth 100000 in
set_option maxHeartbeats 4000000 in
theorem tk_X11_commonDivisor {ad0 : Nat → Nat} {G : Gm} {A : Nat → Prop} {p : Program} {l : Launch} {e : Env} {R : Room} {s0 : State} {m : MethodId} {args : Array Value} {below : List Frame} {meth : Method} {c : Code} {Q : State → Prop} {ρ : Type} {ret : Option Value → SS → Option ρ} {r : ρ} (X : Cx G A RX11 cX11_commonDivisor 11 p s0 m args c) {D' : Nat} {cal : Cal SS} (hcal : calOK l G opsS D' cal) (hRm : ∀ k, k ≤ 21 → D' + 1 ≤ R.frames ∧ 8 + (k + 11) + 40 * D' ≤ R.locals) (hret : RetK G A cX11_commonDivisor 113 6344 ad0 p l e R s0 m args below meth c Q opsS ret r .lreturn okL) : ∀ q ∈ tb_X11_commonDivisor cal, OKi G A 11 113 6344 ad0 p l e R s0 m args below meth c Q opsS ret r q.1 q.2 :=
    okc (ok_lload_n (j := 0) X (by decide +kernel) rfl rfl) (
    okc (ok_lstore X (by decide +kernel) rfl) (
    okc (ok_lload_n (j := 2) X (by decide +kernel) rfl rfl) (
    okc (ok_lstore X (by decide +kernel) rfl) (
    okc (ok_iconst (n := 0) X (by decide +kernel) rfl rfl) (
    okc (ok_istore X (by decide +kernel) rfl) (
    okc (ok_iload X (by decide +kernel) rfl) (
    okc (ok_sipush (n := 200) X (by decide +kernel) rfl rfl) (
    okc (ok_cge (off := 31) X (by decide +kernel) (by decide) rfl) (
    okc (ok_lload X (by decide +kernel) rfl) (
    okc (ok_lconst (n := 0) X (by decide +kernel) rfl rfl) (
    okc (ok_lcmp X (by decide +kernel) rfl) (
    okc (ok_ifeq (off := 24) X (by decide +kernel) (by decide) rfl) (
    okc (ok_lload X (by decide +kernel) rfl) (
    okc (ok_lload X (by decide +kernel) rfl) (
    okc (ok_lrem X (by decide +kernel) rfl) (
    okc (ok_lstore X (by decide +kernel) rfl) (
    okc (ok_lload X (by decide +kernel) rfl) (
    okc (ok_lstore X (by decide +kernel) rfl) (
    okc (ok_lload X (by decide +kernel) rfl) (
    okc (ok_lstore X (by decide +kernel) rfl) (
    okc (ok_iinc (n := 1) X (by decide +kernel) rfl rfl) (
    okc (ok_goto (off := -33) X (by decide +kernel) (by decide)) (
    okc (ok_lload X (by decide +kernel) rfl) (
    okc (ok_lret hret (by decide +kernel)) (
    okn)))))))))))))))))))))))))
noncomputable def es_X11_commonDivisor  : List (Nat × En) := []
noncomputable def ka_X11_commonDivisor_9   (n : Nat) : Kn SS (Int64 × SS) := fun pc ls st s => bif Nat.beq pc 9 then (match ls, st with
    | [_, _, _, _, some (.long x4), _, some (.long x6), _, some (.int x8), _, _], [] => (F_X11_commonDivisor_9 n x4 x6 x8 s)
    | _, _ => none) else (none)
set_option maxRecDepth 100000 in
set_option maxHeartbeats 4000000 in
theorem eq_X11_commonDivisor_9    (n : Nat) (x4 : Int64) (x6 : Int64) (x8 : Int32) (s : SS) : ex (tb_X11_commonDivisor (calE (es_X11_commonDivisor))) rL [9] (ka_X11_commonDivisor_9   n) 27 9 [none, none, none, none, some (.long x4), none, some (.long x6), none, some (.int x8), none, none] [] s = F_X11_commonDivisor_9   (n + 1) x4 x6 x8 s := by
  rfl
set_option maxRecDepth 100000 in
set_option maxHeartbeats 4000000 in
theorem gd_X11_commonDivisor_9 {ad0 : Nat → Nat} {G : Gm} {A : Nat → Prop} {p : Program} {l : Launch} {e : Env} {R : Room} {s0 : State} {m : MethodId} {args : Array Value} {below : List Frame} {meth : Method} {c : Code} {Q : State → Prop} {r : (Int64 × SS)}   (hT : ∀ q ∈ tb_X11_commonDivisor (calE (es_X11_commonDivisor)), OKi G A 11 113 6344 ad0 p l e R s0 m args below meth c Q opsS rL r q.1 q.2)   : ∀ (n : Nat) (x4 : Int64) (x6 : Int64) (x8 : Int32) (s : SS), F_X11_commonDivisor_9   n x4 x6 x8 s = some r → Gd G A 11 113 6344 ad0 p l e R s0 m args below meth c Q opsS 9 [none, none, none, none, some (.long x4), none, some (.long x6), none, some (.int x8), none, none] [] s := by
  intro n
  induction n with
  | zero =>
    intro x4 x6 x8 s hh
    exact absurd (show (none : Option (Int64 × SS)) = some r from hh) (by simp)
  | succ n ih =>
    intro x4 x6 x8 s hh
    rw [← eq_X11_commonDivisor_9    n x4 x6 x8 s] at hh
    refine ex_good hT (fun pc' ls' st' x' hh => ?_) 27 9 _ [] s hh
    unfold ka_X11_commonDivisor_9 at hh
    cases hb : Nat.beq pc' 9 with
    | true =>
      rw [hb] at hh
      have e9 := beq1 hb
      subst e9
      simp only [cond_true] at hh
      split at hh
      · exact Gd.wk (ih _ _ _ _ hh) (Lle.no (Lle.no (Lle.no (Lle.no (Lle.eq (Lle.no (Lle.eq (Lle.no (Lle.eq (Lle.no (Lle.no Lle.nil)))))))))))
      · cases hh
    | false =>
      rw [hb] at hh
      simp only [cond_false] at hh
      cases hh

noncomputable def ka_X11_commonDivisor  : Kn SS (Int64 × SS) := fun pc ls st s => bif Nat.beq pc 9 then (match ls, st with
    | [_, _, _, _, some (.long x4), _, some (.long x6), _, some (.int x8), _, _], [] => (F_X11_commonDivisor_9 fuel0 x4 x6 x8 s)
    | _, _ => none) else (none)
set_option maxRecDepth 100000 in
set_option maxHeartbeats 4000000 in
theorem eq_X11_commonDivisor   (a0 : Int64) (a1 : Int64) (s : SS) : ex (tb_X11_commonDivisor (calE (es_X11_commonDivisor))) rL [9] (ka_X11_commonDivisor ) 27 0 [some (.long a0), none, some (.long a1), none, none, none, none, none, none, none, none] [] s = f_X11_commonDivisor a0 a1 s := by
  rfl
set_option maxRecDepth 100000 in
set_option maxHeartbeats 4000000 in
theorem run_X11_commonDivisor {l : Launch} {G : Gm}   (a0 : Int64) (a1 : Int64) (s : SS) (q : (Int64 × SS)) (h : f_X11_commonDivisor a0 a1 s = some q) (D' : Nat) (hD : 0 ≤ D') : RunsM l G (D' + 1) (md 147) (embS s) [.long a0, .long a1] (some (.long q.1)) (embS q.2) := by
  rw [md_X11_commonDivisor]
  refine runs_L (plainFor_of_name (by decide +kernel)) (Nat.le_of_ble_eq_true rfl) rfl ?_
  intro A p e R s0 m args below meth c Q ad0 hR X hret
  have X : Cx G A RX11 cX11_commonDivisor 11 p s0 m args c := X
  have hT := tk_X11_commonDivisor X (calE_ok (es := es_X11_commonDivisor) (enn)) (rmD rfl hR) hret
  rw [← eq_X11_commonDivisor   a0 a1 s] at h
  refine ex_good hT (fun pc' ls' st' x' hh => ?_) 27 0 _ [] s h
  unfold ka_X11_commonDivisor at hh
  cases hb : Nat.beq pc' 9 with
  | true =>
    rw [hb] at hh
    have e9 := beq1 hb
    subst e9
    simp only [cond_true] at hh
    split at hh
    · exact Gd.wk (gd_X11_commonDivisor_9 hT  _ _ _ _ _ hh) (Lle.no (Lle.no (Lle.no (Lle.no (Lle.eq (Lle.no (Lle.eq (Lle.no (Lle.eq (Lle.no (Lle.no Lle.nil)))))))))))
    · cases hh
  | false =>
    rw [hb] at hh
    simp only [cond_false] at hh
    cases hh

noncomputable def en_X11_commonDivisor  : En := fun _ av s k => match av with
  | [.long a0, .long a1] => (bL (f_X11_commonDivisor a0 a1 s) k)
  | _ => none
set_option maxRecDepth 100000 in
set_option maxHeartbeats 4000000 in
theorem en_X11_commonDivisor_ok {l : Launch} {G : Gm} (D : Nat) (hD : 1 ≤ D) : enOK l G D 147 en_X11_commonDivisor := by
  intro ρ av x k r h
  unfold en_X11_commonDivisor at h
  split at h
  · obtain ⟨q, h1, h2⟩ := bind_of h
    obtain ⟨D', rfl⟩ : ∃ D', D = D' + 1 := ⟨D - 1, by omega⟩
    exact ⟨_, _, h2, run_X11_commonDivisor  _ _ _ _ h1 D' (by omega)⟩
  · cases h

/-! HatRank partOf -/
noncomputable def tb_X11_partOf (cal : Cal SS) : List (Nat × Ins SS) := [(0, e_lload 0 1), (1, e_lload 2 2), (2, e_callS cal 147 2 5), (5, e_lstore 5 7), (7, e_lload 5 9), (9, e_lconst (0) 10), (10, e_lcmp 11), (11, e_ifgt 18 14), (14, e_iload 4 16), (16, e_i2l 17), (17, e_lret), (18, e_iload 4 20), (20, e_ifne 30 23), (23, e_lload 0 24), (24, e_lload 5 26), (26, e_ldiv lDiv 27), (27, e_goto 34), (30, e_lload 2 31), (31, e_lload 5 33), (33, e_ldiv lDiv 34), (34, e_lret)]
set_option maxRecDepth 100000 in
set_option maxHeartbeats 4000000 in
theorem tk_X11_partOf {ad0 : Nat → Nat} {G : Gm} {A : Nat → Prop} {p : Program} {l : Launch} {e : Env} {R : Room} {s0 : State} {m : MethodId} {args : Array Value} {below : List Frame} {meth : Method} {c : Code} {Q : State → Prop} {ρ : Type} {ret : Option Value → SS → Option ρ} {r : ρ} (X : Cx G A RX11 cX11_partOf 7 p s0 m args c) {D' : Nat} {cal : Cal SS} (hcal : calOK l G opsS D' cal) (hRm : ∀ k, k ≤ 21 → D' + 1 ≤ R.frames ∧ 8 + (k + 11) + 40 * D' ≤ R.locals) (hret : RetK G A cX11_partOf 113 6344 ad0 p l e R s0 m args below meth c Q opsS ret r .lreturn okL) : ∀ q ∈ tb_X11_partOf cal, OKi G A 7 113 6344 ad0 p l e R s0 m args below meth c Q opsS ret r q.1 q.2 :=
    okc (ok_lload_n (j := 0) X (by decide +kernel) rfl rfl) (
    okc (ok_lload_n (j := 2) X (by decide +kernel) rfl rfl) (
    okc (ok_callS (Y := (yX11_commonDivisor, cX11_commonDivisor, 11, (some .long))) X hcal opsS_n md_X11_commonDivisor wc_X11_commonDivisor wl_X11_360 wi_X11 ws_X11_commonDivisor (by decide +kernel) (hRm 11 (by decide)) (by decide +kernel) rfl) (
    okc (ok_lstore X (by decide +kernel) rfl) (
    okc (ok_lload X (by decide +kernel) rfl) (
    okc (ok_lconst (n := 0) X (by decide +kernel) rfl rfl) (
    okc (ok_lcmp X (by decide +kernel) rfl) (
    okc (ok_ifgt (off := 7) X (by decide +kernel) (by decide) rfl) (
    okc (ok_iload X (by decide +kernel) rfl) (
    okc (ok_i2l X (by decide +kernel) rfl) (
    okc (ok_lret hret (by decide +kernel)) (
    okc (ok_iload X (by decide +kernel) rfl) (
    okc (ok_ifne (off := 10) X (by decide +kernel) (by decide) rfl) (
    okc (ok_lload_n (j := 0) X (by decide +kernel) rfl rfl) (
    okc (ok_lload X (by decide +kernel) rfl) (
    okc (ok_ldiv X (by decide +kernel) rfl) (
    okc (ok_goto (off := 7) X (by decide +kernel) (by decide)) (
    okc (ok_lload_n (j := 2) X (by decide +kernel) rfl rfl) (
    okc (ok_lload X (by decide +kernel) rfl) (
    okc (ok_ldiv X (by decide +kernel) rfl) (
    okc (ok_lret hret (by decide +kernel)) (
    okn)))))))))))))))))))))
noncomputable def es_X11_partOf  : List (Nat × En) := [(147, en_X11_commonDivisor)]
set_option maxRecDepth 100000 in
set_option maxHeartbeats 4000000 in
theorem eq_X11_partOf   (a0 : Int64) (a1 : Int64) (a2 : Int32) (s : SS) : ex (tb_X11_partOf (calE (es_X11_partOf))) rL [] (fun _ _ _ _ => none) 23 0 [some (.long a0), none, some (.long a1), none, some (.int a2), none, none] [] s = f_X11_partOf a0 a1 a2 s := by
  rfl
set_option maxRecDepth 100000 in
set_option maxHeartbeats 4000000 in
theorem run_X11_partOf {l : Launch} {G : Gm}   (a0 : Int64) (a1 : Int64) (a2 : Int32) (s : SS) (q : (Int64 × SS)) (h : f_X11_partOf a0 a1 a2 s = some q) (D' : Nat) (hD : 1 ≤ D') : RunsM l G (D' + 1) (md 146) (embS s) [.long a0, .long a1, .int a2] (some (.long q.1)) (embS q.2) := by
  rw [md_X11_partOf]
  refine runs_L (plainFor_of_name (by decide +kernel)) (Nat.le_of_ble_eq_true rfl) rfl ?_
  intro A p e R s0 m args below meth c Q ad0 hR X hret
  have X : Cx G A RX11 cX11_partOf 7 p s0 m args c := X
  have hT := tk_X11_partOf X (calE_ok (es := es_X11_partOf) (enc (en_X11_commonDivisor_ok _ (by omega)) (enn))) (rmD rfl hR) hret
  rw [← eq_X11_partOf   a0 a1 a2 s] at h
  refine ex_good hT (fun pc' ls' st' x' hh => ?_) 23 0 _ [] s h
  cases hh

noncomputable def en_X11_partOf  : En := fun _ av s k => match av with
  | [.long a0, .long a1, .int a2] => (bL (f_X11_partOf a0 a1 a2 s) k)
  | _ => none
set_option maxRecDepth 100000 in
set_option maxHeartbeats 4000000 in
theorem en_X11_partOf_ok {l : Launch} {G : Gm} (D : Nat) (hD : 2 ≤ D) : enOK l G D 146 en_X11_partOf := by
  intro ρ av x k r h
  unfold en_X11_partOf at h
  split at h
  · obtain ⟨q, h1, h2⟩ := bind_of h
    obtain ⟨D', rfl⟩ : ∃ D', D = D' + 1 := ⟨D - 1, by omega⟩
    exact ⟨_, _, h2, run_X11_partOf  _ _ _ _ _ h1 D' (by omega)⟩
  · cases h

/-! HatRank chance -/
noncomputable def tb_X11_chance (cal : Cal SS) : List (Nat × Ins SS) := [(0, e_aload 0 1), (1, e_iload 1 2), (2, e_iload 2 3), (3, e_iload 3 4), (4, e_callV opsS cal 139 3 11 7), (7, e_lstore 4 9), (9, e_lload 4 11), (11, e_lconst (0) 12), (12, e_lcmp 13), (13, e_ifeq 19 16), (16, e_lload 4 18), (18, e_lret), (19, e_aload 0 20), (20, e_getR opsS 11 5 23), (23, e_aload 0 24), (24, e_getR opsS 11 1 27), (27, e_iload 1 28), (28, e_aload 0 29), (29, e_getR opsS 11 1 32), (32, e_getR opsS 2 1 35), (35, e_iload 1 36), (36, e_ald opsS 100 37), (37, e_iload 2 38), (38, e_callV opsS cal 37 4 5 41), (41, e_aload 0 42), (42, e_getR opsS 11 5 45), (45, e_getL opsS 5 8 48), (48, e_aload 0 49), (49, e_getR opsS 11 5 52), (52, e_getL opsS 5 10 55), (55, e_iload 3 56), (56, e_callS cal 146 3 59), (59, e_lret)]
set_option maxRecDepth 100000 in
set_option maxHeartbeats 4000000 in
theorem tk_X11_chance {ad0 : Nat → Nat} {G : Gm} {A : Nat → Prop} {p : Program} {l : Launch} {e : Env} {R : Room} {s0 : State} {m : MethodId} {args : Array Value} {below : List Frame} {meth : Method} {c : Code} {Q : State → Prop} {ρ : Type} {ret : Option Value → SS → Option ρ} {r : ρ} (X : Cx G A RX11 cX11_chance 6 p s0 m args c) {D' : Nat} {cal : Cal SS} (hcal : calOK l G opsS D' cal) (hRm : ∀ k, k ≤ 21 → D' + 1 ≤ R.frames ∧ 8 + (k + 11) + 40 * D' ≤ R.locals) (hret : RetK G A cX11_chance 113 6344 ad0 p l e R s0 m args below meth c Q opsS ret r .lreturn okL) : ∀ q ∈ tb_X11_chance cal, OKi G A 6 113 6344 ad0 p l e R s0 m args below meth c Q opsS ret r q.1 q.2 :=
    okc (ok_aload_n (j := 0) X (by decide +kernel) rfl rfl) (
    okc (ok_iload_n (j := 1) X (by decide +kernel) rfl rfl) (
    okc (ok_iload_n (j := 2) X (by decide +kernel) rfl rfl) (
    okc (ok_iload_n (j := 3) X (by decide +kernel) rfl rfl) (
    okc (ok_callV (ci := 11) (C := RX11) (T := TX11) (N := 15) (Y := (yX11_fractionRefusal, cX11_fractionRefusal, 4, (some .long))) X hcal opsS_n md_X11_fractionRefusal rfl (by decide) rfl wc_X11_fractionRefusal wl_X11_201 wi_X11 wm_X11_fractionRefusal wv_X11_fractionRefusal (by decide +kernel) (hRm 4 (by decide)) (by decide +kernel) rfl) (
    okc (ok_lstore X (by decide +kernel) rfl) (
    okc (ok_lload X (by decide +kernel) rfl) (
    okc (ok_lconst (n := 0) X (by decide +kernel) rfl rfl) (
    okc (ok_lcmp X (by decide +kernel) rfl) (
    okc (ok_ifeq (off := 6) X (by decide +kernel) (by decide) rfl) (
    okc (ok_lload X (by decide +kernel) rfl) (
    okc (ok_lret hret (by decide +kernel)) (
    okc (ok_aload_n (j := 0) X (by decide +kernel) rfl rfl) (
    okc (ok_getR (ci := 11) (kf := 5) (idx := 53) (C := RX11) (T := TX11) (N := 15) X rfl (by decide) inX11 (by decide) wf_X11_53 (fun _ _ _ => rfl) (by decide +kernel) rfl) (
    okc (ok_aload_n (j := 0) X (by decide +kernel) rfl rfl) (
    okc (ok_getR (ci := 11) (kf := 1) (idx := 19) (C := RX11) (T := TX11) (N := 15) X rfl (by decide) inX11 (by decide) wf_X11_19 (fun _ _ _ => rfl) (by decide +kernel) rfl) (
    okc (ok_iload_n (j := 1) X (by decide +kernel) rfl rfl) (
    okc (ok_aload_n (j := 0) X (by decide +kernel) rfl rfl) (
    okc (ok_getR (ci := 11) (kf := 1) (idx := 19) (C := RX11) (T := TX11) (N := 15) X rfl (by decide) inX11 (by decide) wf_X11_19 (fun _ _ _ => rfl) (by decide +kernel) rfl) (
    okc (ok_getR (ci := 2) (kf := 1) (idx := 172) (C := RX2) (T := TX2) (N := 4) X rfl (by decide) inX2 (by decide) wf_X11_172 (fun _ _ _ => rfl) (by decide +kernel) rfl) (
    okc (ok_iload_n (j := 1) X (by decide +kernel) rfl rfl) (
    okc (ok_iald X (by decide +kernel) rfl) (
    okc (ok_iload_n (j := 2) X (by decide +kernel) rfl rfl) (
    okc (ok_callV (ci := 5) (C := RX5) (T := TX5) (N := 11) (Y := (yX5_spread, cX5_spread, 5, none)) X hcal opsS_n md_X5_spread rfl (by decide) rfl wc_X5_spread wl_X11_205 wi_X5 wm_X5_spread wv_X5_spread (by decide +kernel) (hRm 5 (by decide)) (by decide +kernel) rfl) (
    okc (ok_aload_n (j := 0) X (by decide +kernel) rfl rfl) (
    okc (ok_getR (ci := 11) (kf := 5) (idx := 53) (C := RX11) (T := TX11) (N := 15) X rfl (by decide) inX11 (by decide) wf_X11_53 (fun _ _ _ => rfl) (by decide +kernel) rfl) (
    okc (ok_getL (ci := 5) (kf := 8) (idx := 209) (C := RX5) (T := TX5) (N := 11) X rfl (by decide) inX5 (by decide) wf_X11_209 (fun _ _ _ => rfl) (by decide +kernel) rfl) (
    okc (ok_aload_n (j := 0) X (by decide +kernel) rfl rfl) (
    okc (ok_getR (ci := 11) (kf := 5) (idx := 53) (C := RX11) (T := TX11) (N := 15) X rfl (by decide) inX11 (by decide) wf_X11_53 (fun _ _ _ => rfl) (by decide +kernel) rfl) (
    okc (ok_getL (ci := 5) (kf := 10) (idx := 213) (C := RX5) (T := TX5) (N := 11) X rfl (by decide) inX5 (by decide) wf_X11_213 (fun _ _ _ => rfl) (by decide +kernel) rfl) (
    okc (ok_iload_n (j := 3) X (by decide +kernel) rfl rfl) (
    okc (ok_callS (Y := (yX11_partOf, cX11_partOf, 7, (some .long))) X hcal opsS_n md_X11_partOf wc_X11_partOf wl_X11_216 wi_X11 ws_X11_partOf (by decide +kernel) (hRm 7 (by decide)) (by decide +kernel) rfl) (
    okc (ok_lret hret (by decide +kernel)) (
    okn)))))))))))))))))))))))))))))))))
noncomputable def es_X11_chance  : List (Nat × En) := [(139, en_X11_fractionRefusal), (37, en_X5_spread), (146, en_X11_partOf)]
set_option maxRecDepth 100000 in
set_option maxHeartbeats 4000000 in
theorem eq_X11_chance   (a0 : Int32) (a1 : Int32) (a2 : Int32) (s : SS) : ex (tb_X11_chance (calE (es_X11_chance))) rL [] (fun _ _ _ _ => none) 35 0 [some (.ref 0), some (.int a0), some (.int a1), some (.int a2), none, none] [] s = f_X11_chance a0 a1 a2 s := by
  rfl
set_option maxRecDepth 100000 in
set_option maxHeartbeats 4000000 in
theorem run_X11_chance {l : Launch} {G : Gm}   (a0 : Int32) (a1 : Int32) (a2 : Int32) (s : SS) (q : (Int64 × SS)) (h : f_X11_chance a0 a1 a2 s = some q) (D' : Nat) (hD : 106 ≤ D') : RunsM l G (D' + 1) (md 115) (embS s) [.ref 0, .int a0, .int a1, .int a2] (some (.long q.1)) (embS q.2) := by
  rw [md_X11_chance]
  refine runs_L (plainFor_of_name (by decide +kernel)) (Nat.le_of_ble_eq_true rfl) rfl ?_
  intro A p e R s0 m args below meth c Q ad0 hR X hret
  have X : Cx G A RX11 cX11_chance 6 p s0 m args c := X
  have hT := tk_X11_chance X (calE_ok (es := es_X11_chance) (enc (en_X11_fractionRefusal_ok _ (by omega)) (enc (en_X5_spread_ok _ (by omega)) (enc (en_X11_partOf_ok _ (by omega)) (enn))))) (rmD rfl hR) hret
  rw [← eq_X11_chance   a0 a1 a2 s] at h
  refine ex_good hT (fun pc' ls' st' x' hh => ?_) 35 0 _ [] s h
  cases hh

noncomputable def en_X11_chance  : En := fun _ av s k => match av with
  | [.ref r0, .int a0, .int a1, .int a2] => (gd (Nat.beq r0 0) (bL (f_X11_chance a0 a1 a2 s) k))
  | _ => none
set_option maxRecDepth 100000 in
set_option maxHeartbeats 4000000 in
theorem en_X11_chance_ok {l : Launch} {G : Gm} (D : Nat) (hD : 107 ≤ D) : enOK l G D 115 en_X11_chance := by
  intro ρ av x k r h
  unfold en_X11_chance at h
  split at h
  · obtain ⟨g0, h⟩ := gd_some h
    obtain ⟨q, h1, h2⟩ := bind_of h
    have e0 := beq1 g0
    subst e0
    obtain ⟨D', rfl⟩ : ∃ D', D = D' + 1 := ⟨D - 1, by omega⟩
    exact ⟨_, _, h2, run_X11_chance  _ _ _ _ _ h1 D' (by omega)⟩
  · cases h

/-! HatRank mean -/
noncomputable def tb_X11_mean (cal : Cal SS) : List (Nat × Ins SS) := [(0, e_aload 0 1), (1, e_iload 1 2), (2, e_iload 2 3), (3, e_iload 3 4), (4, e_callV opsS cal 139 3 11 7), (7, e_lstore 4 9), (9, e_lload 4 11), (11, e_lconst (0) 12), (12, e_lcmp 13), (13, e_ifeq 19 16), (16, e_lload 4 18), (18, e_lret), (19, e_aload 0 20), (20, e_getR opsS 11 5 23), (23, e_aload 0 24), (24, e_getR opsS 11 1 27), (27, e_iload 1 28), (28, e_aload 0 29), (29, e_getR opsS 11 1 32), (32, e_getR opsS 2 1 35), (35, e_iload 1 36), (36, e_ald opsS 100 37), (37, e_iload 2 38), (38, e_callV opsS cal 37 4 5 41), (41, e_aload 0 42), (42, e_getR opsS 11 5 45), (45, e_getL opsS 5 9 48), (48, e_aload 0 49), (49, e_getR opsS 11 5 52), (52, e_getL opsS 5 10 55), (55, e_iload 3 56), (56, e_callS cal 146 3 59), (59, e_lret)]
set_option maxRecDepth 100000 in
set_option maxHeartbeats 4000000 in
theorem tk_X11_mean {ad0 : Nat → Nat} {G : Gm} {A : Nat → Prop} {p : Program} {l : Launch} {e : Env} {R : Room} {s0 : State} {m : MethodId} {args : Array Value} {below : List Frame} {meth : Method} {c : Code} {Q : State → Prop} {ρ : Type} {ret : Option Value → SS → Option ρ} {r : ρ} (X : Cx G A RX11 cX11_mean 6 p s0 m args c) {D' : Nat} {cal : Cal SS} (hcal : calOK l G opsS D' cal) (hRm : ∀ k, k ≤ 21 → D' + 1 ≤ R.frames ∧ 8 + (k + 11) + 40 * D' ≤ R.locals) (hret : RetK G A cX11_mean 113 6344 ad0 p l e R s0 m args below meth c Q opsS ret r .lreturn okL) : ∀ q ∈ tb_X11_mean cal, OKi G A 6 113 6344 ad0 p l e R s0 m args below meth c Q opsS ret r q.1 q.2 :=
    okc (ok_aload_n (j := 0) X (by decide +kernel) rfl rfl) (
    okc (ok_iload_n (j := 1) X (by decide +kernel) rfl rfl) (
    okc (ok_iload_n (j := 2) X (by decide +kernel) rfl rfl) (
    okc (ok_iload_n (j := 3) X (by decide +kernel) rfl rfl) (
    okc (ok_callV (ci := 11) (C := RX11) (T := TX11) (N := 15) (Y := (yX11_fractionRefusal, cX11_fractionRefusal, 4, (some .long))) X hcal opsS_n md_X11_fractionRefusal rfl (by decide) rfl wc_X11_fractionRefusal wl_X11_201 wi_X11 wm_X11_fractionRefusal wv_X11_fractionRefusal (by decide +kernel) (hRm 4 (by decide)) (by decide +kernel) rfl) (
    okc (ok_lstore X (by decide +kernel) rfl) (
    okc (ok_lload X (by decide +kernel) rfl) (
    okc (ok_lconst (n := 0) X (by decide +kernel) rfl rfl) (
    okc (ok_lcmp X (by decide +kernel) rfl) (
    okc (ok_ifeq (off := 6) X (by decide +kernel) (by decide) rfl) (
    okc (ok_lload X (by decide +kernel) rfl) (
    okc (ok_lret hret (by decide +kernel)) (
    okc (ok_aload_n (j := 0) X (by decide +kernel) rfl rfl) (
    okc (ok_getR (ci := 11) (kf := 5) (idx := 53) (C := RX11) (T := TX11) (N := 15) X rfl (by decide) inX11 (by decide) wf_X11_53 (fun _ _ _ => rfl) (by decide +kernel) rfl) (
    okc (ok_aload_n (j := 0) X (by decide +kernel) rfl rfl) (
    okc (ok_getR (ci := 11) (kf := 1) (idx := 19) (C := RX11) (T := TX11) (N := 15) X rfl (by decide) inX11 (by decide) wf_X11_19 (fun _ _ _ => rfl) (by decide +kernel) rfl) (
    okc (ok_iload_n (j := 1) X (by decide +kernel) rfl rfl) (
    okc (ok_aload_n (j := 0) X (by decide +kernel) rfl rfl) (
    okc (ok_getR (ci := 11) (kf := 1) (idx := 19) (C := RX11) (T := TX11) (N := 15) X rfl (by decide) inX11 (by decide) wf_X11_19 (fun _ _ _ => rfl) (by decide +kernel) rfl) (
    okc (ok_getR (ci := 2) (kf := 1) (idx := 172) (C := RX2) (T := TX2) (N := 4) X rfl (by decide) inX2 (by decide) wf_X11_172 (fun _ _ _ => rfl) (by decide +kernel) rfl) (
    okc (ok_iload_n (j := 1) X (by decide +kernel) rfl rfl) (
    okc (ok_iald X (by decide +kernel) rfl) (
    okc (ok_iload_n (j := 2) X (by decide +kernel) rfl rfl) (
    okc (ok_callV (ci := 5) (C := RX5) (T := TX5) (N := 11) (Y := (yX5_spread, cX5_spread, 5, none)) X hcal opsS_n md_X5_spread rfl (by decide) rfl wc_X5_spread wl_X11_205 wi_X5 wm_X5_spread wv_X5_spread (by decide +kernel) (hRm 5 (by decide)) (by decide +kernel) rfl) (
    okc (ok_aload_n (j := 0) X (by decide +kernel) rfl rfl) (
    okc (ok_getR (ci := 11) (kf := 5) (idx := 53) (C := RX11) (T := TX11) (N := 15) X rfl (by decide) inX11 (by decide) wf_X11_53 (fun _ _ _ => rfl) (by decide +kernel) rfl) (
    okc (ok_getL (ci := 5) (kf := 9) (idx := 220) (C := RX5) (T := TX5) (N := 11) X rfl (by decide) inX5 (by decide) wf_X11_220 (fun _ _ _ => rfl) (by decide +kernel) rfl) (
    okc (ok_aload_n (j := 0) X (by decide +kernel) rfl rfl) (
    okc (ok_getR (ci := 11) (kf := 5) (idx := 53) (C := RX11) (T := TX11) (N := 15) X rfl (by decide) inX11 (by decide) wf_X11_53 (fun _ _ _ => rfl) (by decide +kernel) rfl) (
    okc (ok_getL (ci := 5) (kf := 10) (idx := 213) (C := RX5) (T := TX5) (N := 11) X rfl (by decide) inX5 (by decide) wf_X11_213 (fun _ _ _ => rfl) (by decide +kernel) rfl) (
    okc (ok_iload_n (j := 3) X (by decide +kernel) rfl rfl) (
    okc (ok_callS (Y := (yX11_partOf, cX11_partOf, 7, (some .long))) X hcal opsS_n md_X11_partOf wc_X11_partOf wl_X11_216 wi_X11 ws_X11_partOf (by decide +kernel) (hRm 7 (by decide)) (by decide +kernel) rfl) (
    okc (ok_lret hret (by decide +kernel)) (
    okn)))))))))))))))))))))))))))))))))
noncomputable def es_X11_mean  : List (Nat × En) := [(139, en_X11_fractionRefusal), (37, en_X5_spread), (146, en_X11_partOf)]
set_option maxRecDepth 100000 in
set_option maxHeartbeats 4000000 in
theorem eq_X11_mean   (a0 : Int32) (a1 : Int32) (a2 : Int32) (s : SS) : ex (tb_X11_mean (calE (es_X11_mean))) rL [] (fun _ _ _ _ => none) 35 0 [some (.ref 0), some (.int a0), some (.int a1), some (.int a2), none, none] [] s = f_X11_mean a0 a1 a2 s := by
  rfl
set_option maxRecDepth 100000 in
set_option maxHeartbeats 4000000 in
theorem run_X11_mean {l : Launch} {G : Gm}   (a0 : Int32) (a1 : Int32) (a2 : Int32) (s : SS) (q : (Int64 × SS)) (h : f_X11_mean a0 a1 a2 s = some q) (D' : Nat) (hD : 106 ≤ D') : RunsM l G (D' + 1) (md 116) (embS s) [.ref 0, .int a0, .int a1, .int a2] (some (.long q.1)) (embS q.2) := by
  rw [md_X11_mean]
  refine runs_L (plainFor_of_name (by decide +kernel)) (Nat.le_of_ble_eq_true rfl) rfl ?_
  intro A p e R s0 m args below meth c Q ad0 hR X hret
  have X : Cx G A RX11 cX11_mean 6 p s0 m args c := X
  have hT := tk_X11_mean X (calE_ok (es := es_X11_mean) (enc (en_X11_fractionRefusal_ok _ (by omega)) (enc (en_X5_spread_ok _ (by omega)) (enc (en_X11_partOf_ok _ (by omega)) (enn))))) (rmD rfl hR) hret
  rw [← eq_X11_mean   a0 a1 a2 s] at h
  refine ex_good hT (fun pc' ls' st' x' hh => ?_) 35 0 _ [] s h
  cases hh

noncomputable def en_X11_mean  : En := fun _ av s k => match av with
  | [.ref r0, .int a0, .int a1, .int a2] => (gd (Nat.beq r0 0) (bL (f_X11_mean a0 a1 a2 s) k))
  | _ => none
set_option maxRecDepth 100000 in
set_option maxHeartbeats 4000000 in
theorem en_X11_mean_ok {l : Launch} {G : Gm} (D : Nat) (hD : 107 ≤ D) : enOK l G D 116 en_X11_mean := by
  intro ρ av x k r h
  unfold en_X11_mean at h
  split at h
  · obtain ⟨g0, h⟩ := gd_some h
    obtain ⟨q, h1, h2⟩ := bind_of h
    have e0 := beq1 g0
    subst e0
    obtain ⟨D', rfl⟩ : ∃ D', D = D' + 1 := ⟨D - 1, by omega⟩
    exact ⟨_, _, h2, run_X11_mean  _ _ _ _ _ h1 D' (by omega)⟩
  · cases h

/-! HatRank stand -/
noncomputable def tb_X11_stand (cal : Cal SS) : List (Nat × Ins SS) := [(0, e_aload 0 1), (1, e_iload 1 2), (2, e_iload 2 3), (3, e_callV opsS cal 138 2 11 6), (6, e_ifne 11 9), (9, e_iconst (-1) 10), (10, e_iret), (11, e_iload 2 12), (12, e_aload 0 13), (13, e_callV opsS cal 137 0 11 16), (16, e_cle 22 19), (19, e_iconst (-5) 21), (21, e_iret), (22, e_aload 0 23), (23, e_getR opsS 11 1 26), (26, e_getR opsS 2 1 29), (29, e_iload 1 30), (30, e_ald opsS 100 31), (31, e_istore 3 32), (32, e_iload 3 33), (33, e_istore 4 35), (35, e_aload 0 36), (36, e_getR opsS 11 5 39), (39, e_aload 0 40), (40, e_getR opsS 11 1 43), (43, e_iload 1 44), (44, e_iload 3 45), (45, e_iload 2 46), (46, e_callV opsS cal 37 4 5 49), (49, e_aload 0 50), (50, e_getR opsS 11 5 53), (53, e_getL opsS 5 8 56), (56, e_lstore 5 58), (58, e_iconst (0) 59), (59, e_istore 7 61), (61, e_iload 7 63), (63, e_aload 0 64), (64, e_getR opsS 11 0 67), (67, e_getI opsS 9 1 70), (70, e_cge 126 73), (73, e_iload 7 75), (75, e_iload 3 76), (76, e_ceq 120 79), (79, e_aload 0 80), (80, e_getR opsS 11 5 83), (83, e_aload 0 84), (84, e_getR opsS 11 1 87), (87, e_iload 1 88), (88, e_iload 7 90), (90, e_iload 2 91), (91, e_callV opsS cal 37 4 5 94), (94, e_aload 0 95), (95, e_getR opsS 11 5 98), (98, e_getL opsS 5 8 101), (101, e_lload 5 103), (103, e_lcmp 104), (104, e_ifle 120 107), (107, e_aload 0 108), (108, e_getR opsS 11 5 111), (111, e_getL opsS 5 8 114), (114, e_lstore 5 116), (116, e_iload 7 118), (118, e_istore 4 120), (120, e_iinc 7 (1) 123), (123, e_goto 61), (126, e_iload 4 128), (128, e_iret)]
set_option maxRecDepth 100000 in
set_option maxHeartbeats 4000000 in
theorem tk_X11_stand {ad0 : Nat → Nat} {G : Gm} {A : Nat → Prop} {p : Program} {l : Launch} {e : Env} {R : Room} {s0 : State} {m : MethodId} {args : Array Value} {below : List Frame} {meth : Method} {c : Code} {Q : State → Prop} {ρ : Type} {ret : Option Value → SS → Option ρ} {r : ρ} (X : Cx G A RX11 cX11_stand 8 p s0 m args c) {D' : Nat} {cal : Cal SS} (hcal : calOK l G opsS D' cal) (hRm : ∀ k, k ≤ 21 → D' + 1 ≤ R.frames ∧ 8 + (k + 11) + 40 * D' ≤ R.locals) (hret : RetK G A cX11_stand 113 6344 ad0 p l e R s0 m args below meth c Q opsS ret r .ireturn okI) : ∀ q ∈ tb_X11_stand cal, OKi G A 8 113 6344 ad0 p l e R s0 m args below meth c Q opsS ret r q.1 q.2 :=
    okc (ok_aload_n (j := 0) X (by decide +kernel) rfl rfl) (
    okc (ok_iload_n (j := 1) X (by decide +kernel) rfl rfl) (
    okc (ok_iload_n (j := 2) X (by decide +kernel) rfl rfl) (
    okc (ok_callV (ci := 11) (C := RX11) (T := TX11) (N := 15) (Y := (yX11_mayThink, cX11_mayThink, 3, (some .boolean))) X hcal opsS_n md_X11_mayThink rfl (by decide) rfl wc_X11_mayThink wl_X11_223 wi_X11 wm_X11_mayThink wv_X11_mayThink (by decide +kernel) (hRm 3 (by decide)) (by decide +kernel) rfl) (
    okc (ok_ifne (off := 5) X (by decide +kernel) (by decide) rfl) (
    okc (ok_iconst (n := -1) X (by decide +kernel) rfl rfl) (
    okc (ok_iret hret (by decide +kernel)) (
    okc (ok_iload_n (j := 2) X (by decide +kernel) rfl rfl) (
    okc (ok_aload_n (j := 0) X (by decide +kernel) rfl rfl) (
    okc (ok_callV (ci := 11) (C := RX11) (T := TX11) (N := 15) (Y := (yX11_hoursLeft, cX11_hoursLeft, 1, (some .int))) X hcal opsS_n md_X11_hoursLeft rfl (by decide) rfl wc_X11_hoursLeft wl_X11_157 wi_X11 wm_X11_hoursLeft wv_X11_hoursLeft (by decide +kernel) (hRm 1 (by decide)) (by decide +kernel) rfl) (
    okc (ok_cle (off := 6) X (by decide +kernel) (by decide) rfl) (
    okc (ok_bipush (n := -5) X (by decide +kernel) rfl rfl) (
    okc (ok_iret hret (by decide +kernel)) (
    okc (ok_aload_n (j := 0) X (by decide +kernel) rfl rfl) (
    okc (ok_getR (ci := 11) (kf := 1) (idx := 19) (C := RX11) (T := TX11) (N := 15) X rfl (by decide) inX11 (by decide) wf_X11_19 (fun _ _ _ => rfl) (by decide +kernel) rfl) (
    okc (ok_getR (ci := 2) (kf := 1) (idx := 172) (C := RX2) (T := TX2) (N := 4) X rfl (by decide) inX2 (by decide) wf_X11_172 (fun _ _ _ => rfl) (by decide +kernel) rfl) (
    okc (ok_iload_n (j := 1) X (by decide +kernel) rfl rfl) (
    okc (ok_iald X (by decide +kernel) rfl) (
    okc (ok_istore_n (j := 3) X (by decide +kernel) rfl rfl) (
    okc (ok_iload_n (j := 3) X (by decide +kernel) rfl rfl) (
    okc (ok_istore X (by decide +kernel) rfl) (
    okc (ok_aload_n (j := 0) X (by decide +kernel) rfl rfl) (
    okc (ok_getR (ci := 11) (kf := 5) (idx := 53) (C := RX11) (T := TX11) (N := 15) X rfl (by decide) inX11 (by decide) wf_X11_53 (fun _ _ _ => rfl) (by decide +kernel) rfl) (
    okc (ok_aload_n (j := 0) X (by decide +kernel) rfl rfl) (
    okc (ok_getR (ci := 11) (kf := 1) (idx := 19) (C := RX11) (T := TX11) (N := 15) X rfl (by decide) inX11 (by decide) wf_X11_19 (fun _ _ _ => rfl) (by decide +kernel) rfl) (
    okc (ok_iload_n (j := 1) X (by decide +kernel) rfl rfl) (
    okc (ok_iload_n (j := 3) X (by decide +kernel) rfl rfl) (
    okc (ok_iload_n (j := 2) X (by decide +kernel) rfl rfl) (
    okc (ok_callV (ci := 5) (C := RX5) (T := TX5) (N := 11) (Y := (yX5_spread, cX5_spread, 5, none)) X hcal opsS_n md_X5_spread rfl (by decide) rfl wc_X5_spread wl_X11_205 wi_X5 wm_X5_spread wv_X5_spread (by decide +kernel) (hRm 5 (by decide)) (by decide +kernel) rfl) (
    okc (ok_aload_n (j := 0) X (by decide +kernel) rfl rfl) (
    okc (ok_getR (ci := 11) (kf := 5) (idx := 53) (C := RX11) (T := TX11) (N := 15) X rfl (by decide) inX11 (by decide) wf_X11_53 (fun _ _ _ => rfl) (by decide +kernel) rfl) (
    okc (ok_getL (ci := 5) (kf := 8) (idx := 209) (C := RX5) (T := TX5) (N := 11) X rfl (by decide) inX5 (by decide) wf_X11_209 (fun _ _ _ => rfl) (by decide +kernel) rfl) (
    okc (ok_lstore X (by decide +kernel) rfl) (
    okc (ok_iconst (n := 0) X (by decide +kernel) rfl rfl) (
    okc (ok_istore X (by decide +kernel) rfl) (
    okc (ok_iload X (by decide +kernel) rfl) (
    okc (ok_aload_n (j := 0) X (by decide +kernel) rfl rfl) (
    okc (ok_getR (ci := 11) (kf := 0) (idx := 10) (C := RX11) (T := TX11) (N := 15) X rfl (by decide) inX11 (by decide) wf_X11_10 (fun _ _ _ => rfl) (by decide +kernel) rfl) (
    okc (ok_getI (ci := 9) (kf := 1) (idx := 226) (C := RX9) (T := TX9) (N := 8) X rfl (by decide) inX9 (by decide) wf_X11_226 (fun _ _ _ => rfl) (by decide +kernel) rfl) (
    okc (ok_cge (off := 56) X (by decide +kernel) (by decide) rfl) (
    okc (ok_iload X (by decide +kernel) rfl) (
    okc (ok_iload_n (j := 3) X (by decide +kernel) rfl rfl) (
    okc (ok_ceq (off := 44) X (by decide +kernel) (by decide) rfl) (
    okc (ok_aload_n (j := 0) X (by decide +kernel) rfl rfl) (
    okc (ok_getR (ci := 11) (kf := 5) (idx := 53) (C := RX11) (T := TX11) (N := 15) X rfl (by decide) inX11 (by decide) wf_X11_53 (fun _ _ _ => rfl) (by decide +kernel) rfl) (
    okc (ok_aload_n (j := 0) X (by decide +kernel) rfl rfl) (
    okc (ok_getR (ci := 11) (kf := 1) (idx := 19) (C := RX11) (T := TX11) (N := 15) X rfl (by decide) inX11 (by decide) wf_X11_19 (fun _ _ _ => rfl) (by decide +kernel) rfl) (
    okc (ok_iload_n (j := 1) X (by decide +kernel) rfl rfl) (
    okc (ok_iload X (by decide +kernel) rfl) (
    okc (ok_iload_n (j := 2) X (by decide +kernel) rfl rfl) (
    okc (ok_callV (ci := 5) (C := RX5) (T := TX5) (N := 11) (Y := (yX5_spread, cX5_spread, 5, none)) X hcal opsS_n md_X5_spread rfl (by decide) rfl wc_X5_spread wl_X11_205 wi_X5 wm_X5_spread wv_X5_spread (by decide +kernel) (hRm 5 (by decide)) (by decide +kernel) rfl) (
    okc (ok_aload_n (j := 0) X (by decide +kernel) rfl rfl) (
    okc (ok_getR (ci := 11) (kf := 5) (idx := 53) (C := RX11) (T := TX11) (N := 15) X rfl (by decide) inX11 (by decide) wf_X11_53 (fun _ _ _ => rfl) (by decide +kernel) rfl) (
    okc (ok_getL (ci := 5) (kf := 8) (idx := 209) (C := RX5) (T := TX5) (N := 11) X rfl (by decide) inX5 (by decide) wf_X11_209 (fun _ _ _ => rfl) (by decide +kernel) rfl) (
    okc (ok_lload X (by decide +kernel) rfl) (
    okc (ok_lcmp X (by decide +kernel) rfl) (
    okc (ok_ifle (off := 16) X (by decide +kernel) (by decide) rfl) (
    okc (ok_aload_n (j := 0) X (by decide +kernel) rfl rfl) (
    okc (ok_getR (ci := 11) (kf := 5) (idx := 53) (C := RX11) (T := TX11) (N := 15) X rfl (by decide) inX11 (by decide) wf_X11_53 (fun _ _ _ => rfl) (by decide +kernel) rfl) (
    okc (ok_getL (ci := 5) (kf := 8) (idx := 209) (C := RX5) (T := TX5) (N := 11) X rfl (by decide) inX5 (by decide) wf_X11_209 (fun _ _ _ => rfl) (by decide +kernel) rfl) (
    okc (ok_lstore X (by decide +kernel) rfl) (
    okc (ok_iload X (by decide +kernel) rfl) (
    okc (ok_istore X (by decide +kernel) rfl) (
    okc (ok_iinc (n := 1) X (by decide +kernel) rfl rfl) (
    okc (ok_goto (off := -62) X (by decide +kernel) (by decide)) (
    okc (ok_iload X (by decide +kernel) rfl) (
    okc (ok_iret hret (by decide +kernel)) (
    okn)))))))))))))))))))))))))))))))))))))))))))))))))))))))))))))))))))
noncomputable def es_X11_stand  : List (Nat × En) := [(138, en_X11_mayThink), (137, en_X11_hoursLeft), (37, en_X5_spread)]
noncomputable def ka_X11_stand_61   (n : Nat) : Kn SS (Int32 × SS) := fun pc ls st s => bif Nat.beq pc 61 then (match ls, st with
    | [some y0, some (.int x1), some (.int x2), some (.int x3), some (.int x4), some (.long x5), _, some (.int x7)], [] => (gd (veq y0 (.ref 0)) (F_X11_stand_61 n x1 x2 x3 x4 x5 x7 s))
    | _, _ => none) else (none)
set_option maxRecDepth 100000 in
set_option maxHeartbeats 4000000 in
theorem eq_X11_stand_61    (n : Nat) (x1 : Int32) (x2 : Int32) (x3 : Int32) (x4 : Int32) (x5 : Int64) (x7 : Int32) (s : SS) : ex (tb_X11_stand (calE (es_X11_stand))) rI [61] (ka_X11_stand_61   n) 69 61 [some (.ref 0), some (.int x1), some (.int x2), some (.int x3), some (.int x4), some (.long x5), none, some (.int x7)] [] s = F_X11_stand_61   (n + 1) x1 x2 x3 x4 x5 x7 s := by
  rfl
set_option maxRecDepth 100000 in
set_option maxHeartbeats 4000000 in
theorem gd_X11_stand_61 {ad0 : Nat → Nat} {G : Gm} {A : Nat → Prop} {p : Program} {l : Launch} {e : Env} {R : Room} {s0 : State} {m : MethodId} {args : Array Value} {below : List Frame} {meth : Method} {c : Code} {Q : State → Prop} {r : (Int32 × SS)}   (hT : ∀ q ∈ tb_X11_stand (calE (es_X11_stand)), OKi G A 8 113 6344 ad0 p l e R s0 m args below meth c Q opsS rI r q.1 q.2)   : ∀ (n : Nat) (x1 : Int32) (x2 : Int32) (x3 : Int32) (x4 : Int32) (x5 : Int64) (x7 : Int32) (s : SS), F_X11_stand_61   n x1 x2 x3 x4 x5 x7 s = some r → Gd G A 8 113 6344 ad0 p l e R s0 m args below meth c Q opsS 61 [some (.ref 0), some (.int x1), some (.int x2), some (.int x3), some (.int x4), some (.long x5), none, some (.int x7)] [] s := by
  intro n
  induction n with
  | zero =>
    intro x1 x2 x3 x4 x5 x7 s hh
    exact absurd (show (none : Option (Int32 × SS)) = some r from hh) (by simp)
  | succ n ih =>
    intro x1 x2 x3 x4 x5 x7 s hh
    rw [← eq_X11_stand_61    n x1 x2 x3 x4 x5 x7 s] at hh
    refine ex_good hT (fun pc' ls' st' x' hh => ?_) 69 61 _ [] s hh
    unfold ka_X11_stand_61 at hh
    cases hb : Nat.beq pc' 61 with
    | true =>
      rw [hb] at hh
      have e9 := beq1 hb
      subst e9
      simp only [cond_true] at hh
      split at hh
      · obtain ⟨g0, hh1⟩ := gd_some hh
        have e0 := veq_of g0
        subst e0
        exact Gd.wk (ih _ _ _ _ _ _ _ hh1) (Lle.eq (Lle.eq (Lle.eq (Lle.eq (Lle.eq (Lle.eq (Lle.no (Lle.eq Lle.nil))))))))
      · cases hh
    | false =>
      rw [hb] at hh
      simp only [cond_false] at hh
      cases hh

noncomputable def ka_X11_stand  : Kn SS (Int32 × SS) := fun pc ls st s => bif Nat.beq pc 61 then (match ls, st with
    | [some y0, some (.int x1), some (.int x2), some (.int x3), some (.int x4), some (.long x5), _, some (.int x7)], [] => (gd (veq y0 (.ref 0)) (F_X11_stand_61 fuel0 x1 x2 x3 x4 x5 x7 s))
    | _, _ => none) else (none)
set_option maxRecDepth 100000 in
set_option maxHeartbeats 4000000 in
theorem eq_X11_stand   (a0 : Int32) (a1 : Int32) (s : SS) : ex (tb_X11_stand (calE (es_X11_stand))) rI [61] (ka_X11_stand ) 69 0 [some (.ref 0), some (.int a0), some (.int a1), none, none, none, none, none] [] s = f_X11_stand a0 a1 s := by
  rfl
set_option maxRecDepth 100000 in
set_option maxHeartbeats 4000000 in
theorem run_X11_stand {l : Launch} {G : Gm}   (a0 : Int32) (a1 : Int32) (s : SS) (q : (Int32 × SS)) (h : f_X11_stand a0 a1 s = some q) (D' : Nat) (hD : 106 ≤ D') : RunsM l G (D' + 1) (md 117) (embS s) [.ref 0, .int a0, .int a1] (some (.int q.1)) (embS q.2) := by
  rw [md_X11_stand]
  refine runs_I (plainFor_of_name (by decide +kernel)) (Nat.le_of_ble_eq_true rfl) rfl ?_
  intro A p e R s0 m args below meth c Q ad0 hR X hret
  have X : Cx G A RX11 cX11_stand 8 p s0 m args c := X
  have hT := tk_X11_stand X (calE_ok (es := es_X11_stand) (enc (en_X11_mayThink_ok _ (by omega)) (enc (en_X11_hoursLeft_ok _ (by omega)) (enc (en_X5_spread_ok _ (by omega)) (enn))))) (rmD rfl hR) hret
  rw [← eq_X11_stand   a0 a1 s] at h
  refine ex_good hT (fun pc' ls' st' x' hh => ?_) 69 0 _ [] s h
  unfold ka_X11_stand at hh
  cases hb : Nat.beq pc' 61 with
  | true =>
    rw [hb] at hh
    have e9 := beq1 hb
    subst e9
    simp only [cond_true] at hh
    split at hh
    · obtain ⟨g0, hh1⟩ := gd_some hh
      have e0 := veq_of g0
      subst e0
      exact Gd.wk (gd_X11_stand_61 hT  _ _ _ _ _ _ _ _ hh1) (Lle.eq (Lle.eq (Lle.eq (Lle.eq (Lle.eq (Lle.eq (Lle.no (Lle.eq Lle.nil))))))))
    · cases hh
  | false =>
    rw [hb] at hh
    simp only [cond_false] at hh
    cases hh

noncomputable def en_X11_stand  : En := fun _ av s k => match av with
  | [.ref r0, .int a0, .int a1] => (gd (Nat.beq r0 0) (bI (f_X11_stand a0 a1 s) k))
  | _ => none
set_option maxRecDepth 100000 in
set_option maxHeartbeats 4000000 in
theorem en_X11_stand_ok {l : Launch} {G : Gm} (D : Nat) (hD : 107 ≤ D) : enOK l G D 117 en_X11_stand := by
  intro ρ av x k r h
  unfold en_X11_stand at h
  split at h
  · obtain ⟨g0, h⟩ := gd_some h
    obtain ⟨q, h1, h2⟩ := bind_of h
    have e0 := beq1 g0
    subst e0
    obtain ⟨D', rfl⟩ : ∃ D', D = D' + 1 := ⟨D - 1, by omega⟩
    exact ⟨_, _, h2, run_X11_stand  _ _ _ _ h1 D' (by omega)⟩
  · cases h

/-! HatRank heavy -/
noncomputable def tb_X11_heavy (cal : Cal SS) : List (Nat × Ins SS) := [(0, e_aload 0 1), (1, e_getR opsS 11 0 4), (4, e_iload 1 5), (5, e_callV opsS cal 77 1 9 8), (8, e_ifeq 33 11), (11, e_iload 2 12), (12, e_iflt 33 15), (15, e_iload 2 16), (16, e_iconst (100) 18), (18, e_div aDiv 19), (19, e_iconst (24) 21), (21, e_cge 33 24), (24, e_iload 2 25), (25, e_iconst (100) 27), (27, e_div aRem 28), (28, e_iconst (12) 30), (30, e_cle 35 33), (33, e_iconst (-1) 34), (34, e_iret), (35, e_iconst (0) 36), (36, e_istore 3 37), (37, e_iload 3 38), (38, e_iconst (9) 40), (40, e_cgt 84 43), (43, e_aload 0 44), (44, e_getR opsS 11 3 47), (47, e_aload 0 48), (48, e_getR opsS 11 1 51), (51, e_iload 1 52), (52, e_aload 0 53), (53, e_getR opsS 11 1 56), (56, e_getR opsS 2 1 59), (59, e_iload 1 60), (60, e_ald opsS 100 61), (61, e_iload 2 62), (62, e_iconst (100) 64), (64, e_div aDiv 65), (65, e_iload 3 66), (66, e_callV opsS cal 33 5 4 69), (69, e_iload 2 70), (70, e_iconst (100) 72), (72, e_div aRem 73), (73, e_cgt 78 76), (76, e_iload 3 77), (77, e_iret), (78, e_iinc 3 (1) 81), (81, e_goto 37), (84, e_iconst (-2) 86), (86, e_iret)]
set_option maxRecDepth 100000 in
set_option maxHeartbeats 4000000 in
theorem tk_X11_heavy {ad0 : Nat → Nat} {G : Gm} {A : Nat → Prop} {p : Program} {l : Launch} {e : Env} {R : Room} {s0 : State} {m : MethodId} {args : Array Value} {below : List Frame} {meth : Method} {c : Code} {Q : State → Prop} {ρ : Type} {ret : Option Value → SS → Option ρ} {r : ρ} (X : Cx G A RX11 cX11_heavy 4 p s0 m args c) {D' : Nat} {cal : Cal SS} (hcal : calOK l G opsS D' cal) (hRm : ∀ k, k ≤ 21 → D' + 1 ≤ R.frames ∧ 8 + (k + 11) + 40 * D' ≤ R.locals) (hret : RetK G A cX11_heavy 113 6344 ad0 p l e R s0 m args below meth c Q opsS ret r .ireturn okI) : ∀ q ∈ tb_X11_heavy cal, OKi G A 4 113 6344 ad0 p l e R s0 m args below meth c Q opsS ret r q.1 q.2 :=
    okc (ok_aload_n (j := 0) X (by decide +kernel) rfl rfl) (
    okc (ok_getR (ci := 11) (kf := 0) (idx := 10) (C := RX11) (T := TX11) (N := 15) X rfl (by decide) inX11 (by decide) wf_X11_10 (fun _ _ _ => rfl) (by decide +kernel) rfl) (
    okc (ok_iload_n (j := 1) X (by decide +kernel) rfl rfl) (
    okc (ok_callV (ci := 9) (C := RX9) (T := TX9) (N := 8) (Y := (yX9_hasPerson, cX9_hasPerson, 2, (some .boolean))) X hcal opsS_n md_X9_hasPerson rfl (by decide) rfl wc_X9_hasPerson wl_X11_169 wi_X9 wm_X9_hasPerson wv_X9_hasPerson (by decide +kernel) (hRm 2 (by decide)) (by decide +kernel) rfl) (
    okc (ok_ifeq (off := 25) X (by decide +kernel) (by decide) rfl) (
    okc (ok_iload_n (j := 2) X (by decide +kernel) rfl rfl) (
    okc (ok_iflt (off := 21) X (by decide +kernel) (by decide) rfl) (
    okc (ok_iload_n (j := 2) X (by decide +kernel) rfl rfl) (
    okc (ok_bipush (n := 100) X (by decide +kernel) rfl rfl) (
    okc (ok_idiv X (by decide +kernel) rfl) (
    okc (ok_bipush (n := 24) X (by decide +kernel) rfl rfl) (
    okc (ok_cge (off := 12) X (by decide +kernel) (by decide) rfl) (
    okc (ok_iload_n (j := 2) X (by decide +kernel) rfl rfl) (
    okc (ok_bipush (n := 100) X (by decide +kernel) rfl rfl) (
    okc (ok_irem X (by decide +kernel) rfl) (
    okc (ok_bipush (n := 12) X (by decide +kernel) rfl rfl) (
    okc (ok_cle (off := 5) X (by decide +kernel) (by decide) rfl) (
    okc (ok_iconst (n := -1) X (by decide +kernel) rfl rfl) (
    okc (ok_iret hret (by decide +kernel)) (
    okc (ok_iconst (n := 0) X (by decide +kernel) rfl rfl) (
    okc (ok_istore_n (j := 3) X (by decide +kernel) rfl rfl) (
    okc (ok_iload_n (j := 3) X (by decide +kernel) rfl rfl) (
    okc (ok_bipush (n := 9) X (by decide +kernel) rfl rfl) (
    okc (ok_cgt (off := 44) X (by decide +kernel) (by decide) rfl) (
    okc (ok_aload_n (j := 0) X (by decide +kernel) rfl rfl) (
    okc (ok_getR (ci := 11) (kf := 3) (idx := 35) (C := RX11) (T := TX11) (N := 15) X rfl (by decide) inX11 (by decide) wf_X11_35 (fun _ _ _ => rfl) (by decide +kernel) rfl) (
    okc (ok_aload_n (j := 0) X (by decide +kernel) rfl rfl) (
    okc (ok_getR (ci := 11) (kf := 1) (idx := 19) (C := RX11) (T := TX11) (N := 15) X rfl (by decide) inX11 (by decide) wf_X11_19 (fun _ _ _ => rfl) (by decide +kernel) rfl) (
    okc (ok_iload_n (j := 1) X (by decide +kernel) rfl rfl) (
    okc (ok_aload_n (j := 0) X (by decide +kernel) rfl rfl) (
    okc (ok_getR (ci := 11) (kf := 1) (idx := 19) (C := RX11) (T := TX11) (N := 15) X rfl (by decide) inX11 (by decide) wf_X11_19 (fun _ _ _ => rfl) (by decide +kernel) rfl) (
    okc (ok_getR (ci := 2) (kf := 1) (idx := 172) (C := RX2) (T := TX2) (N := 4) X rfl (by decide) inX2 (by decide) wf_X11_172 (fun _ _ _ => rfl) (by decide +kernel) rfl) (
    okc (ok_iload_n (j := 1) X (by decide +kernel) rfl rfl) (
    okc (ok_iald X (by decide +kernel) rfl) (
    okc (ok_iload_n (j := 2) X (by decide +kernel) rfl rfl) (
    okc (ok_bipush (n := 100) X (by decide +kernel) rfl rfl) (
    okc (ok_idiv X (by decide +kernel) rfl) (
    okc (ok_iload_n (j := 3) X (by decide +kernel) rfl rfl) (
    okc (ok_callV (ci := 4) (C := RX4) (T := TX4) (N := 4) (Y := (yX4_number, cX4_number, 9, (some .int))) X hcal opsS_n md_X4_number rfl (by decide) rfl wc_X4_number wl_X11_229 wi_X4 wm_X4_number wv_X4_number (by decide +kernel) (hRm 9 (by decide)) (by decide +kernel) rfl) (
    okc (ok_iload_n (j := 2) X (by decide +kernel) rfl rfl) (
    okc (ok_bipush (n := 100) X (by decide +kernel) rfl rfl) (
    okc (ok_irem X (by decide +kernel) rfl) (
    okc (ok_cgt (off := 5) X (by decide +kernel) (by decide) rfl) (
    okc (ok_iload_n (j := 3) X (by decide +kernel) rfl rfl) (
    okc (ok_iret hret (by decide +kernel)) (
    okc (ok_iinc (n := 1) X (by decide +kernel) rfl rfl) (
    okc (ok_goto (off := -44) X (by decide +kernel) (by decide)) (
    okc (ok_bipush (n := -2) X (by decide +kernel) rfl rfl) (
    okc (ok_iret hret (by decide +kernel)) (
    okn)))))))))))))))))))))))))))))))))))))))))))))))))
noncomputable def es_X11_heavy  : List (Nat × En) := [(77, en_X9_hasPerson), (33, en_X4_number)]
noncomputable def ka_X11_heavy_37   (n : Nat) : Kn SS (Int32 × SS) := fun pc ls st s => bif Nat.beq pc 37 then (match ls, st with
    | [some y0, some (.int x1), some (.int x2), some (.int x3)], [] => (gd (veq y0 (.ref 0)) (F_X11_heavy_37 n x1 x2 x3 s))
    | _, _ => none) else (none)
set_option maxRecDepth 100000 in
set_option maxHeartbeats 4000000 in
theorem eq_X11_heavy_37    (n : Nat) (x1 : Int32) (x2 : Int32) (x3 : Int32) (s : SS) : ex (tb_X11_heavy (calE (es_X11_heavy))) rI [37] (ka_X11_heavy_37   n) 51 37 [some (.ref 0), some (.int x1), some (.int x2), some (.int x3)] [] s = F_X11_heavy_37   (n + 1) x1 x2 x3 s := by
  rfl
set_option maxRecDepth 100000 in
set_option maxHeartbeats 4000000 in
theorem gd_X11_heavy_37 {ad0 : Nat → Nat} {G : Gm} {A : Nat → Prop} {p : Program} {l : Launch} {e : Env} {R : Room} {s0 : State} {m : MethodId} {args : Array Value} {below : List Frame} {meth : Method} {c : Code} {Q : State → Prop} {r : (Int32 × SS)}   (hT : ∀ q ∈ tb_X11_heavy (calE (es_X11_heavy)), OKi G A 4 113 6344 ad0 p l e R s0 m args below meth c Q opsS rI r q.1 q.2)   : ∀ (n : Nat) (x1 : Int32) (x2 : Int32) (x3 : Int32) (s : SS), F_X11_heavy_37   n x1 x2 x3 s = some r → Gd G A 4 113 6344 ad0 p l e R s0 m args below meth c Q opsS 37 [some (.ref 0), some (.int x1), some (.int x2), some (.int x3)] [] s := by
  intro n
  induction n with
  | zero =>
    intro x1 x2 x3 s hh
    exact absurd (show (none : Option (Int32 × SS)) = some r from hh) (by simp)
  | succ n ih =>
    intro x1 x2 x3 s hh
    rw [← eq_X11_heavy_37    n x1 x2 x3 s] at hh
    refine ex_good hT (fun pc' ls' st' x' hh => ?_) 51 37 _ [] s hh
    unfold ka_X11_heavy_37 at hh
    cases hb : Nat.beq pc' 37 with
    | true =>
      rw [hb] at hh
      have e9 := beq1 hb
      subst e9
      simp only [cond_true] at hh
      split at hh
      · obtain ⟨g0, hh1⟩ := gd_some hh
        have e0 := veq_of g0
        subst e0
        exact Gd.wk (ih _ _ _ _ hh1) (Lle.eq (Lle.eq (Lle.eq (Lle.eq Lle.nil))))
      · cases hh
    | false =>
      rw [hb] at hh
      simp only [cond_false] at hh
      cases hh

noncomputable def ka_X11_heavy  : Kn SS (Int32 × SS) := fun pc ls st s => bif Nat.beq pc 37 then (match ls, st with
    | [some y0, some (.int x1), some (.int x2), some (.int x3)], [] => (gd (veq y0 (.ref 0)) (F_X11_heavy_37 fuel0 x1 x2 x3 s))
    | _, _ => none) else (none)
set_option maxRecDepth 100000 in
set_option maxHeartbeats 4000000 in
theorem eq_X11_heavy   (a0 : Int32) (a1 : Int32) (s : SS) : ex (tb_X11_heavy (calE (es_X11_heavy))) rI [37] (ka_X11_heavy ) 51 0 [some (.ref 0), some (.int a0), some (.int a1), none] [] s = f_X11_heavy a0 a1 s := by
  rfl
set_option maxRecDepth 100000 in
set_option maxHeartbeats 4000000 in
theorem run_X11_heavy {l : Launch} {G : Gm}   (a0 : Int32) (a1 : Int32) (s : SS) (q : (Int32 × SS)) (h : f_X11_heavy a0 a1 s = some q) (D' : Nat) (hD : 3 ≤ D') : RunsM l G (D' + 1) (md 118) (embS s) [.ref 0, .int a0, .int a1] (some (.int q.1)) (embS q.2) := by
  rw [md_X11_heavy]
  refine runs_I (plainFor_of_name (by decide +kernel)) (Nat.le_of_ble_eq_true rfl) rfl ?_
  intro A p e R s0 m args below meth c Q ad0 hR X hret
  have X : Cx G A RX11 cX11_heavy 4 p s0 m args c := X
  have hT := tk_X11_heavy X (calE_ok (es := es_X11_heavy) (enc (en_X9_hasPerson_ok _ (by omega)) (enc (en_X4_number_ok _ (by omega)) (enn)))) (rmD rfl hR) hret
  rw [← eq_X11_heavy   a0 a1 s] at h
  refine ex_good hT (fun pc' ls' st' x' hh => ?_) 51 0 _ [] s h
  unfold ka_X11_heavy at hh
  cases hb : Nat.beq pc' 37 with
  | true =>
    rw [hb] at hh
    have e9 := beq1 hb
    subst e9
    simp only [cond_true] at hh
    split at hh
    · obtain ⟨g0, hh1⟩ := gd_some hh
      have e0 := veq_of g0
      subst e0
      exact Gd.wk (gd_X11_heavy_37 hT  _ _ _ _ _ hh1) (Lle.eq (Lle.eq (Lle.eq (Lle.eq Lle.nil))))
    · cases hh
  | false =>
    rw [hb] at hh
    simp only [cond_false] at hh
    cases hh

noncomputable def en_X11_heavy  : En := fun _ av s k => match av with
  | [.ref r0, .int a0, .int a1] => (gd (Nat.beq r0 0) (bI (f_X11_heavy a0 a1 s) k))
  | _ => none
set_option maxRecDepth 100000 in
set_option maxHeartbeats 4000000 in
theorem en_X11_heavy_ok {l : Launch} {G : Gm} (D : Nat) (hD : 4 ≤ D) : enOK l G D 118 en_X11_heavy := by
  intro ρ av x k r h
  unfold en_X11_heavy at h
  split at h
  · obtain ⟨g0, h⟩ := gd_some h
    obtain ⟨q, h1, h2⟩ := bind_of h
    have e0 := beq1 g0
    subst e0
    obtain ⟨D', rfl⟩ : ∃ D', D = D' + 1 := ⟨D - 1, by omega⟩
    exact ⟨_, _, h2, run_X11_heavy  _ _ _ _ h1 D' (by omega)⟩
  · cases h

/-! HatRank ahead -/
noncomputable def tb_X11_ahead (cal : Cal SS) : List (Nat × Ins SS) := [(0, e_iload 4 2), (2, e_ifne 16 5), (5, e_aload 0 6), (6, e_getR opsS 11 0 9), (9, e_iload 3 10), (10, e_callV opsS cal 77 1 9 13), (13, e_goto 26), (16, e_iload 3 17), (17, e_iconst (-1) 18), (18, e_cne 25 21), (21, e_iconst (1) 22), (22, e_goto 26), (25, e_iconst (0) 26), (26, e_istore 5 28), (28, e_iload 2 29), (29, e_iconst (1) 30), (30, e_iconst (24) 32), (32, e_callS cal 136 3 35), (35, e_ifeq 53 38), (38, e_iload 4 40), (40, e_iconst (0) 41), (41, e_iconst (2) 42), (42, e_callS cal 136 3 45), (45, e_ifeq 53 48), (48, e_iload 5 50), (50, e_ifne 55 53), (53, e_iconst (-1) 54), (54, e_iret), (55, e_iload 2 56), (56, e_aload 0 57), (57, e_callV opsS cal 137 0 11 60), (60, e_cgt 79 63), (63, e_iload 4 65), (65, e_iconst (1) 66), (66, e_cne 82 69), (69, e_aload 0 70), (70, e_getR opsS 11 0 73), (73, e_getI opsS 9 0 76), (76, e_ifne 82 79), (79, e_iconst (-5) 81), (81, e_iret), (82, e_aload 0 83), (83, e_getR opsS 11 3 86), (86, e_iconst (0) 87), (87, e_callV opsS cal 31 1 4 90), (90, e_aload 0 91), (91, e_getR opsS 11 4 94), (94, e_aload 0 95), (95, e_getR opsS 11 1 98), (98, e_iload 1 99), (99, e_iload 2 100), (100, e_callV opsS cal 90 3 10 103), (103, e_astore 6 105), (105, e_iload 4 107), (107, e_ifne 118 110), (110, e_aload 6 112), (112, e_getR opsS 2 0 115), (115, e_iload 3 116), (116, e_ald opsS 100 117), (117, e_iret), (118, e_iload 4 120), (120, e_iconst (1) 121), (121, e_cne 136 124), (124, e_aload 0 125), (125, e_getR opsS 11 0 128), (128, e_aload 6 130), (130, e_callV opsS cal 87 1 9 133), (133, e_goto 141), (136, e_aload 6 138), (138, e_callV opsS cal 19 0 2 141), (141, e_iret)]
set_option maxRecDepth 100000 in
set_option maxHeartbeats 4000000 in
theorem tk_X11_ahead {ad0 : Nat → Nat} {G : Gm} {A : Nat → Prop} {p : Program} {l : Launch} {e : Env} {R : Room} {s0 : State} {m : MethodId} {args : Array Value} {below : List Frame} {meth : Method} {c : Code} {Q : State → Prop} {ρ : Type} {ret : Option Value → SS → Option ρ} {r : ρ} (X : Cx G A RX11 cX11_ahead 7 p s0 m args c) {D' : Nat} {cal : Cal SS} (hcal : calOK l G opsS D' cal) (hRm : ∀ k, k ≤ 21 → D' + 1 ≤ R.frames ∧ 8 + (k + 11) + 40 * D' ≤ R.locals) (hret : RetK G A cX11_ahead 113 6344 ad0 p l e R s0 m args below meth c Q opsS ret r .ireturn okI) : ∀ q ∈ tb_X11_ahead cal, OKi G A 7 113 6344 ad0 p l e R s0 m args below meth c Q opsS ret r q.1 q.2 :=
    okc (ok_iload X (by decide +kernel) rfl) (
    okc (ok_ifne (off := 14) X (by decide +kernel) (by decide) rfl) (
    okc (ok_aload_n (j := 0) X (by decide +kernel) rfl rfl) (
    okc (ok_getR (ci := 11) (kf := 0) (idx := 10) (C := RX11) (T := TX11) (N := 15) X rfl (by decide) inX11 (by decide) wf_X11_10 (fun _ _ _ => rfl) (by decide +kernel) rfl) (
    okc (ok_iload_n (j := 3) X (by decide +kernel) rfl rfl) (
    okc (ok_callV (ci := 9) (C := RX9) (T := TX9) (N := 8) (Y := (yX9_hasPerson, cX9_hasPerson, 2, (some .boolean))) X hcal opsS_n md_X9_hasPerson rfl (by decide) rfl wc_X9_hasPerson wl_X11_169 wi_X9 wm_X9_hasPerson wv_X9_hasPerson (by decide +kernel) (hRm 2 (by decide)) (by decide +kernel) rfl) (
    okc (ok_goto (off := 13) X (by decide +kernel) (by decide)) (
    okc (ok_iload_n (j := 3) X (by decide +kernel) rfl rfl) (
    okc (ok_iconst (n := -1) X (by decide +kernel) rfl rfl) (
    okc (ok_cne (off := 7) X (by decide +kernel) (by decide) rfl) (
    okc (ok_iconst (n := 1) X (by decide +kernel) rfl rfl) (
    okc (ok_goto (off := 4) X (by decide +kernel) (by decide)) (
    okc (ok_iconst (n := 0) X (by decide +kernel) rfl rfl) (
    okc (ok_istore X (by decide +kernel) rfl) (
    okc (ok_iload_n (j := 2) X (by decide +kernel) rfl rfl) (
    okc (ok_iconst (n := 1) X (by decide +kernel) rfl rfl) (
    okc (ok_bipush (n := 24) X (by decide +kernel) rfl rfl) (
    okc (ok_callS (Y := (yX11_within, cX11_within, 3, (some .boolean))) X hcal opsS_n md_X11_within wc_X11_within wl_X11_92 wi_X11 ws_X11_within (by decide +kernel) (hRm 3 (by decide)) (by decide +kernel) rfl) (
    okc (ok_ifeq (off := 18) X (by decide +kernel) (by decide) rfl) (
    okc (ok_iload X (by decide +kernel) rfl) (
    okc (ok_iconst (n := 0) X (by decide +kernel) rfl rfl) (
    okc (ok_iconst (n := 2) X (by decide +kernel) rfl rfl) (
    okc (ok_callS (Y := (yX11_within, cX11_within, 3, (some .boolean))) X hcal opsS_n md_X11_within wc_X11_within wl_X11_92 wi_X11 ws_X11_within (by decide +kernel) (hRm 3 (by decide)) (by decide +kernel) rfl) (
    okc (ok_ifeq (off := 8) X (by decide +kernel) (by decide) rfl) (
    okc (ok_iload X (by decide +kernel) rfl) (
    okc (ok_ifne (off := 5) X (by decide +kernel) (by decide) rfl) (
    okc (ok_iconst (n := -1) X (by decide +kernel) rfl rfl) (
    okc (ok_iret hret (by decide +kernel)) (
    okc (ok_iload_n (j := 2) X (by decide +kernel) rfl rfl) (
    okc (ok_aload_n (j := 0) X (by decide +kernel) rfl rfl) (
    okc (ok_callV (ci := 11) (C := RX11) (T := TX11) (N := 15) (Y := (yX11_hoursLeft, cX11_hoursLeft, 1, (some .int))) X hcal opsS_n md_X11_hoursLeft rfl (by decide) rfl wc_X11_hoursLeft wl_X11_157 wi_X11 wm_X11_hoursLeft wv_X11_hoursLeft (by decide +kernel) (hRm 1 (by decide)) (by decide +kernel) rfl) (
    okc (ok_cgt (off := 19) X (by decide +kernel) (by decide) rfl) (
    okc (ok_iload X (by decide +kernel) rfl) (
    okc (ok_iconst (n := 1) X (by decide +kernel) rfl rfl) (
    okc (ok_cne (off := 16) X (by decide +kernel) (by decide) rfl) (
    okc (ok_aload_n (j := 0) X (by decide +kernel) rfl rfl) (
    okc (ok_getR (ci := 11) (kf := 0) (idx := 10) (C := RX11) (T := TX11) (N := 15) X rfl (by decide) inX11 (by decide) wf_X11_10 (fun _ _ _ => rfl) (by decide +kernel) rfl) (
    okc (ok_getI (ci := 9) (kf := 0) (idx := 178) (C := RX9) (T := TX9) (N := 8) X rfl (by decide) inX9 (by decide) wf_X11_178 (fun _ _ _ => rfl) (by decide +kernel) rfl) (
    okc (ok_ifne (off := 6) X (by decide +kernel) (by decide) rfl) (
    okc (ok_bipush (n := -5) X (by decide +kernel) rfl rfl) (
    okc (ok_iret hret (by decide +kernel)) (
    okc (ok_aload_n (j := 0) X (by decide +kernel) rfl rfl) (
    okc (ok_getR (ci := 11) (kf := 3) (idx := 35) (C := RX11) (T := TX11) (N := 15) X rfl (by decide) inX11 (by decide) wf_X11_35 (fun _ _ _ => rfl) (by decide +kernel) rfl) (
    okc (ok_iconst (n := 0) X (by decide +kernel) rfl rfl) (
    okc (ok_callV (ci := 4) (C := RX4) (T := TX4) (N := 4) (Y := (yX4_begin, cX4_begin, 2, none)) X hcal opsS_n md_X4_begin rfl (by decide) rfl wc_X4_begin wl_X11_160 wi_X4 wm_X4_begin wv_X4_begin (by decide +kernel) (hRm 2 (by decide)) (by decide +kernel) rfl) (
    okc (ok_aload_n (j := 0) X (by decide +kernel) rfl rfl) (
    okc (ok_getR (ci := 11) (kf := 4) (idx := 44) (C := RX11) (T := TX11) (N := 15) X rfl (by decide) inX11 (by decide) wf_X11_44 (fun _ _ _ => rfl) (by decide +kernel) rfl) (
    okc (ok_aload_n (j := 0) X (by decide +kernel) rfl rfl) (
    okc (ok_getR (ci := 11) (kf := 1) (idx := 19) (C := RX11) (T := TX11) (N := 15) X rfl (by decide) inX11 (by decide) wf_X11_19 (fun _ _ _ => rfl) (by decide +kernel) rfl) (
    okc (ok_iload_n (j := 1) X (by decide +kernel) rfl rfl) (
    okc (ok_iload_n (j := 2) X (by decide +kernel) rfl rfl) (
    okc (ok_callV (ci := 10) (C := RX10) (T := TX10) (N := 4) (Y := (yX10_think, cX10_think, 4, (some (.object "HatRank$Day")))) X hcal opsS_n md_X10_think rfl (by decide) rfl wc_X10_think wl_X11_233 wi_X10 wm_X10_think wv_X10_think (by decide +kernel) (hRm 4 (by decide)) (by decide +kernel) rfl) (
    okc (ok_astore X (by decide +kernel) rfl) (
    okc (ok_iload X (by decide +kernel) rfl) (
    okc (ok_ifne (off := 11) X (by decide +kernel) (by decide) rfl) (
    okc (ok_aload X (by decide +kernel) rfl) (
    okc (ok_getR (ci := 2) (kf := 0) (idx := 237) (C := RX2) (T := TX2) (N := 4) X rfl (by decide) inX2 (by decide) wf_X11_237 (fun _ _ _ => rfl) (by decide +kernel) rfl) (
    okc (ok_iload_n (j := 3) X (by decide +kernel) rfl rfl) (
    okc (ok_iald X (by decide +kernel) rfl) (
    okc (ok_iret hret (by decide +kernel)) (
    okc (ok_iload X (by decide +kernel) rfl) (
    okc (ok_iconst (n := 1) X (by decide +kernel) rfl rfl) (
    okc (ok_cne (off := 15) X (by decide +kernel) (by decide) rfl) (
    okc (ok_aload_n (j := 0) X (by decide +kernel) rfl rfl) (
    okc (ok_getR (ci := 11) (kf := 0) (idx := 10) (C := RX11) (T := TX11) (N := 15) X rfl (by decide) inX11 (by decide) wf_X11_10 (fun _ _ _ => rfl) (by decide +kernel) rfl) (
    okc (ok_aload X (by decide +kernel) rfl) (
    okc (ok_callV (ci := 9) (C := RX9) (T := TX9) (N := 8) (Y := (yX9_commander, cX9_commander, 4, (some .int))) X hcal opsS_n md_X9_commander rfl (by decide) rfl wc_X9_commander wl_X11_182 wi_X9 wm_X9_commander wv_X9_commander (by decide +kernel) (hRm 4 (by decide)) (by decide +kernel) rfl) (
    okc (ok_goto (off := 8) X (by decide +kernel) (by decide)) (
    okc (ok_aload X (by decide +kernel) rfl) (
    okc (ok_callV (ci := 2) (C := RX2) (T := TX2) (N := 4) (Y := (yX2_allLying, cX2_allLying, 3, (some .int))) X hcal opsS_n md_X2_allLying rfl (by decide) rfl wc_X2_allLying wl_X11_239 wi_X2 wm_X2_allLying wv_X2_allLying (by decide +kernel) (hRm 3 (by decide)) (by decide +kernel) rfl) (
    okc (ok_iret hret (by decide +kernel)) (
    okn)))))))))))))))))))))))))))))))))))))))))))))))))))))))))))))))))))))))
noncomputable def es_X11_ahead  : List (Nat × En) := [(77, en_X9_hasPerson), (136, en_X11_within), (137, en_X11_hoursLeft), (31, en_X4_begin), (90, en_X10_think), (87, en_X9_commander), (19, en_X2_allLying)]
set_option maxRecDepth 100000 in
set_option maxHeartbeats 4000000 in
theorem eq_X11_ahead   (a0 : Int32) (a1 : Int32) (a2 : Int32) (a3 : Int32) (s : SS) : ex (tb_X11_ahead (calE (es_X11_ahead))) rI [] (fun _ _ _ _ => none) 73 0 [some (.ref 0), some (.int a0), some (.int a1), some (.int a2), some (.int a3), none, none] [] s = f_X11_ahead a0 a1 a2 a3 s := by
  rfl
set_option maxRecDepth 100000 in
set_option maxHeartbeats 4000000 in
theorem run_X11_ahead {l : Launch} {G : Gm}   (a0 : Int32) (a1 : Int32) (a2 : Int32) (a3 : Int32) (s : SS) (q : (Int32 × SS)) (h : f_X11_ahead a0 a1 a2 a3 s = some q) (D' : Nat) (hD : 7 ≤ D') : RunsM l G (D' + 1) (md 119) (embS s) [.ref 0, .int a0, .int a1, .int a2, .int a3] (some (.int q.1)) (embS q.2) := by
  rw [md_X11_ahead]
  refine runs_I (plainFor_of_name (by decide +kernel)) (Nat.le_of_ble_eq_true rfl) rfl ?_
  intro A p e R s0 m args below meth c Q ad0 hR X hret
  have X : Cx G A RX11 cX11_ahead 7 p s0 m args c := X
  have hT := tk_X11_ahead X (calE_ok (es := es_X11_ahead) (enc (en_X9_hasPerson_ok _ (by omega)) (enc (en_X11_within_ok _ (by omega)) (enc (en_X11_hoursLeft_ok _ (by omega)) (enc (en_X4_begin_ok _ (by omega)) (enc (en_X10_think_ok _ (by omega)) (enc (en_X9_commander_ok _ (by omega)) (enc (en_X2_allLying_ok _ (by omega)) (enn))))))))) (rmD rfl hR) hret
  rw [← eq_X11_ahead   a0 a1 a2 a3 s] at h
  refine ex_good hT (fun pc' ls' st' x' hh => ?_) 73 0 _ [] s h
  cases hh

noncomputable def en_X11_ahead  : En := fun _ av s k => match av with
  | [.ref r0, .int a0, .int a1, .int a2, .int a3] => (gd (Nat.beq r0 0) (bI (f_X11_ahead a0 a1 a2 a3 s) k))
  | _ => none
set_option maxRecDepth 100000 in
set_option maxHeartbeats 4000000 in
theorem en_X11_ahead_ok {l : Launch} {G : Gm} (D : Nat) (hD : 8 ≤ D) : enOK l G D 119 en_X11_ahead := by
  intro ρ av x k r h
  unfold en_X11_ahead at h
  split at h
  · obtain ⟨g0, h⟩ := gd_some h
    obtain ⟨q, h1, h2⟩ := bind_of h
    have e0 := beq1 g0
    subst e0
    obtain ⟨D', rfl⟩ : ∃ D', D = D' + 1 := ⟨D - 1, by omega⟩
    exact ⟨_, _, h2, run_X11_ahead  _ _ _ _ _ _ h1 D' (by omega)⟩
  · cases h

/-! HatRank storm -/
noncomputable def tb_X11_storm (cal : Cal SS) : List (Nat × Ins SS) := [(0, e_aload 0 1), (1, e_getR opsS 11 0 4), (4, e_getI opsS 9 0 7), (7, e_ifne 13 10), (10, e_iconst (-5) 12), (12, e_iret), (13, e_aload 0 14), (14, e_getR opsS 11 0 17), (17, e_aload 0 18), (18, e_getR opsS 11 1 21), (21, e_callV opsS cal 87 1 9 24), (24, e_istore 2 25), (25, e_iconst (-2) 27), (27, e_istore 3 28), (28, e_iconst (0) 29), (29, e_istore 4 31), (31, e_iload 4 33), (33, e_iconst (20) 35), (35, e_cgt 89 38), (38, e_iload 3 39), (39, e_iconst (-2) 41), (41, e_cne 89 44), (44, e_aload 0 45), (45, e_getR opsS 11 3 48), (48, e_iload 4 50), (50, e_callV opsS cal 31 1 4 53), (53, e_aload 0 54), (54, e_getR opsS 11 0 57), (57, e_aload 0 58), (58, e_getR opsS 11 4 61), (61, e_aload 0 62), (62, e_getR opsS 11 1 65), (65, e_iload 1 66), (66, e_aload 0 67), (67, e_callV opsS cal 137 0 11 70), (70, e_callV opsS cal 90 3 10 73), (73, e_callV opsS cal 87 1 9 76), (76, e_iload 2 77), (77, e_ceq 83 80), (80, e_iload 4 82), (82, e_istore 3 83), (83, e_iinc 4 (1) 86), (86, e_goto 31), (89, e_aload 0 90), (90, e_getR opsS 11 3 93), (93, e_iconst (0) 94), (94, e_callV opsS cal 31 1 4 97), (97, e_iload 3 98), (98, e_iret)]
set_option maxRecDepth 100000 in
set_option maxHeartbeats 4000000 in
theorem tk_X11_storm {ad0 : Nat → Nat} {G : Gm} {A : Nat → Prop} {p : Program} {l : Launch} {e : Env} {R : Room} {s0 : State} {m : MethodId} {args : Array Value} {below : List Frame} {meth : Method} {c : Code} {Q : State → Prop} {ρ : Type} {ret : Option Value → SS → Option ρ} {r : ρ} (X : Cx G A RX11 cX11_storm 5 p s0 m args c) {D' : Nat} {cal : Cal SS} (hcal : calOK l G opsS D' cal) (hRm : ∀ k, k ≤ 21 → D' + 1 ≤ R.frames ∧ 8 + (k + 11) + 40 * D' ≤ R.locals) (hret : RetK G A cX11_storm 113 6344 ad0 p l e R s0 m args below meth c Q opsS ret r .ireturn okI) : ∀ q ∈ tb_X11_storm cal, OKi G A 5 113 6344 ad0 p l e R s0 m args below meth c Q opsS ret r q.1 q.2 :=
    okc (ok_aload_n (j := 0) X (by decide +kernel) rfl rfl) (
    okc (ok_getR (ci := 11) (kf := 0) (idx := 10) (C := RX11) (T := TX11) (N := 15) X rfl (by decide) inX11 (by decide) wf_X11_10 (fun _ _ _ => rfl) (by decide +kernel) rfl) (
    okc (ok_getI (ci := 9) (kf := 0) (idx := 178) (C := RX9) (T := TX9) (N := 8) X rfl (by decide) inX9 (by decide) wf_X11_178 (fun _ _ _ => rfl) (by decide +kernel) rfl) (
    okc (ok_ifne (off := 6) X (by decide +kernel) (by decide) rfl) (
    okc (ok_bipush (n := -5) X (by decide +kernel) rfl rfl) (
    okc (ok_iret hret (by decide +kernel)) (
    okc (ok_aload_n (j := 0) X (by decide +kernel) rfl rfl) (
    okc (ok_getR (ci := 11) (kf := 0) (idx := 10) (C := RX11) (T := TX11) (N := 15) X rfl (by decide) inX11 (by decide) wf_X11_10 (fun _ _ _ => rfl) (by decide +kernel) rfl) (
    okc (ok_aload_n (j := 0) X (by decide +kernel) rfl rfl) (
    okc (ok_getR (ci := 11) (kf := 1) (idx := 19) (C := RX11) (T := TX11) (N := 15) X rfl (by decide) inX11 (by decide) wf_X11_19 (fun _ _ _ => rfl) (by decide +kernel) rfl) (
    okc (ok_callV (ci := 9) (C := RX9) (T := TX9) (N := 8) (Y := (yX9_commander, cX9_commander, 4, (some .int))) X hcal opsS_n md_X9_commander rfl (by decide) rfl wc_X9_commander wl_X11_182 wi_X9 wm_X9_commander wv_X9_commander (by decide +kernel) (hRm 4 (by decide)) (by decide +kernel) rfl) (
    okc (ok_istore_n (j := 2) X (by decide +kernel) rfl rfl) (
    okc (ok_bipush (n := -2) X (by decide +kernel) rfl rfl) (
    okc (ok_istore_n (j := 3) X (by decide +kernel) rfl rfl) (
    okc (ok_iconst (n := 0) X (by decide +kernel) rfl rfl) (
    okc (ok_istore X (by decide +kernel) rfl) (
    okc (ok_iload X (by decide +kernel) rfl) (
    okc (ok_bipush (n := 20) X (by decide +kernel) rfl rfl) (
    okc (ok_cgt (off := 54) X (by decide +kernel) (by decide) rfl) (
    okc (ok_iload_n (j := 3) X (by decide +kernel) rfl rfl) (
    okc (ok_bipush (n := -2) X (by decide +kernel) rfl rfl) (
    okc (ok_cne (off := 48) X (by decide +kernel) (by decide) rfl) (
    okc (ok_aload_n (j := 0) X (by decide +kernel) rfl rfl) (
    okc (ok_getR (ci := 11) (kf := 3) (idx := 35) (C := RX11) (T := TX11) (N := 15) X rfl (by decide) inX11 (by decide) wf_X11_35 (fun _ _ _ => rfl) (by decide +kernel) rfl) (
    okc (ok_iload X (by decide +kernel) rfl) (
    okc (ok_callV (ci := 4) (C := RX4) (T := TX4) (N := 4) (Y := (yX4_begin, cX4_begin, 2, none)) X hcal opsS_n md_X4_begin rfl (by decide) rfl wc_X4_begin wl_X11_160 wi_X4 wm_X4_begin wv_X4_begin (by decide +kernel) (hRm 2 (by decide)) (by decide +kernel) rfl) (
    okc (ok_aload_n (j := 0) X (by decide +kernel) rfl rfl) (
    okc (ok_getR (ci := 11) (kf := 0) (idx := 10) (C := RX11) (T := TX11) (N := 15) X rfl (by decide) inX11 (by decide) wf_X11_10 (fun _ _ _ => rfl) (by decide +kernel) rfl) (
    okc (ok_aload_n (j := 0) X (by decide +kernel) rfl rfl) (
    okc (ok_getR (ci := 11) (kf := 4) (idx := 44) (C := RX11) (T := TX11) (N := 15) X rfl (by decide) inX11 (by decide) wf_X11_44 (fun _ _ _ => rfl) (by decide +kernel) rfl) (
    okc (ok_aload_n (j := 0) X (by decide +kernel) rfl rfl) (
    okc (ok_getR (ci := 11) (kf := 1) (idx := 19) (C := RX11) (T := TX11) (N := 15) X rfl (by decide) inX11 (by decide) wf_X11_19 (fun _ _ _ => rfl) (by decide +kernel) rfl) (
    okc (ok_iload_n (j := 1) X (by decide +kernel) rfl rfl) (
    okc (ok_aload_n (j := 0) X (by decide +kernel) rfl rfl) (
    okc (ok_callV (ci := 11) (C := RX11) (T := TX11) (N := 15) (Y := (yX11_hoursLeft, cX11_hoursLeft, 1, (some .int))) X hcal opsS_n md_X11_hoursLeft rfl (by decide) rfl wc_X11_hoursLeft wl_X11_157 wi_X11 wm_X11_hoursLeft wv_X11_hoursLeft (by decide +kernel) (hRm 1 (by decide)) (by decide +kernel) rfl) (
    okc (ok_callV (ci := 10) (C := RX10) (T := TX10) (N := 4) (Y := (yX10_think, cX10_think, 4, (some (.object "HatRank$Day")))) X hcal opsS_n md_X10_think rfl (by decide) rfl wc_X10_think wl_X11_233 wi_X10 wm_X10_think wv_X10_think (by decide +kernel) (hRm 4 (by decide)) (by decide +kernel) rfl) (
    okc (ok_callV (ci := 9) (C := RX9) (T := TX9) (N := 8) (Y := (yX9_commander, cX9_commander, 4, (some .int))) X hcal opsS_n md_X9_commander rfl (by decide) rfl wc_X9_commander wl_X11_182 wi_X9 wm_X9_commander wv_X9_commander (by decide +kernel) (hRm 4 (by decide)) (by decide +kernel) rfl) (
    okc (ok_iload_n (j := 2) X (by decide +kernel) rfl rfl) (
    okc (ok_ceq (off := 6) X (by decide +kernel) (by decide) rfl) (
    okc (ok_iload X (by decide +kernel) rfl) (
    okc (ok_istore_n (j := 3) X (by decide +kernel) rfl rfl) (
    okc (ok_iinc (n := 1) X (by decide +kernel) rfl rfl) (
    okc (ok_goto (off := -55) X (by decide +kernel) (by decide)) (
    okc (ok_aload_n (j := 0) X (by decide +kernel) rfl rfl) (
    okc (ok_getR (ci := 11) (kf := 3) (idx := 35) (C := RX11) (T := TX11) (N := 15) X rfl (by decide) inX11 (by decide) wf_X11_35 (fun _ _ _ => rfl) (by decide +kernel) rfl) (
    okc (ok_iconst (n := 0) X (by decide +kernel) rfl rfl) (
    okc (ok_callV (ci := 4) (C := RX4) (T := TX4) (N := 4) (Y := (yX4_begin, cX4_begin, 2, none)) X hcal opsS_n md_X4_begin rfl (by decide) rfl wc_X4_begin wl_X11_160 wi_X4 wm_X4_begin wv_X4_begin (by decide +kernel) (hRm 2 (by decide)) (by decide +kernel) rfl) (
    okc (ok_iload_n (j := 3) X (by decide +kernel) rfl rfl) (
    okc (ok_iret hret (by decide +kernel)) (
    okn)))))))))))))))))))))))))))))))))))))))))))))))))
noncomputable def es_X11_storm  : List (Nat × En) := [(87, en_X9_commander), (31, en_X4_begin), (137, en_X11_hoursLeft), (90, en_X10_think)]
noncomputable def ka_X11_storm_31   (n : Nat) : Kn SS (Int32 × SS) := fun pc ls st s => bif Nat.beq pc 31 then (match ls, st with
    | [some y0, some (.int x1), some (.int x2), some (.int x3), some (.int x4)], [] => (gd (veq y0 (.ref 0)) (F_X11_storm_31 n x1 x2 x3 x4 s))
    | _, _ => none) else (none)
set_option maxRecDepth 100000 in
set_option maxHeartbeats 4000000 in
theorem eq_X11_storm_31    (n : Nat) (x1 : Int32) (x2 : Int32) (x3 : Int32) (x4 : Int32) (s : SS) : ex (tb_X11_storm (calE (es_X11_storm))) rI [31] (ka_X11_storm_31   n) 51 31 [some (.ref 0), some (.int x1), some (.int x2), some (.int x3), some (.int x4)] [] s = F_X11_storm_31   (n + 1) x1 x2 x3 x4 s := by
  rfl
set_option maxRecDepth 100000 in
set_option maxHeartbeats 4000000 in
theorem gd_X11_storm_31 {ad0 : Nat → Nat} {G : Gm} {A : Nat → Prop} {p : Program} {l : Launch} {e : Env} {R : Room} {s0 : State} {m : MethodId} {args : Array Value} {below : List Frame} {meth : Method} {c : Code} {Q : State → Prop} {r : (Int32 × SS)}   (hT : ∀ q ∈ tb_X11_storm (calE (es_X11_storm)), OKi G A 5 113 6344 ad0 p l e R s0 m args below meth c Q opsS rI r q.1 q.2)   : ∀ (n : Nat) (x1 : Int32) (x2 : Int32) (x3 : Int32) (x4 : Int32) (s : SS), F_X11_storm_31   n x1 x2 x3 x4 s = some r → Gd G A 5 113 6344 ad0 p l e R s0 m args below meth c Q opsS 31 [some (.ref 0), some (.int x1), some (.int x2), some (.int x3), some (.int x4)] [] s := by
  intro n
  induction n with
  | zero =>
    intro x1 x2 x3 x4 s hh
    exact absurd (show (none : Option (Int32 × SS)) = some r from hh) (by simp)
  | succ n ih =>
    intro x1 x2 x3 x4 s hh
    rw [← eq_X11_storm_31    n x1 x2 x3 x4 s] at hh
    refine ex_good hT (fun pc' ls' st' x' hh => ?_) 51 31 _ [] s hh
    unfold ka_X11_storm_31 at hh
    cases hb : Nat.beq pc' 31 with
    | true =>
      rw [hb] at hh
      have e9 := beq1 hb
      subst e9
      simp only [cond_true] at hh
      split at hh
      · obtain ⟨g0, hh1⟩ := gd_some hh
        have e0 := veq_of g0
        subst e0
        exact Gd.wk (ih _ _ _ _ _ hh1) (Lle.eq (Lle.eq (Lle.eq (Lle.eq (Lle.eq Lle.nil)))))
      · cases hh
    | false =>
      rw [hb] at hh
      simp only [cond_false] at hh
      cases hh

noncomputable def ka_X11_storm  : Kn SS (Int32 × SS) := fun pc ls st s => bif Nat.beq pc 31 then (match ls, st with
    | [some y0, some (.int x1), some (.int x2), some (.int x3), some (.int x4)], [] => (gd (veq y0 (.ref 0)) (F_X11_storm_31 fuel0 x1 x2 x3 x4 s))
    | _, _ => none) else (none)
set_option maxRecDepth 100000 in
set_option maxHeartbeats 4000000 in
theorem eq_X11_storm   (a0 : Int32) (s : SS) : ex (tb_X11_storm (calE (es_X11_storm))) rI [31] (ka_X11_storm ) 51 0 [some (.ref 0), some (.int a0), none, none, none] [] s = f_X11_storm a0 s := by
  rfl
set_option maxRecDepth 100000 in
set_option maxHeartbeats 4000000 in
theorem run_X11_storm {l : Launch} {G : Gm}   (a0 : Int32) (s : SS) (q : (Int32 × SS)) (h : f_X11_storm a0 s = some q) (D' : Nat) (hD : 7 ≤ D') : RunsM l G (D' + 1) (md 120) (embS s) [.ref 0, .int a0] (some (.int q.1)) (embS q.2) := by
  rw [md_X11_storm]
  refine runs_I (plainFor_of_name (by decide +kernel)) (Nat.le_of_ble_eq_true rfl) rfl ?_
  intro A p e R s0 m args below meth c Q ad0 hR X hret
  have X : Cx G A RX11 cX11_storm 5 p s0 m args c := X
  have hT := tk_X11_storm X (calE_ok (es := es_X11_storm) (enc (en_X9_commander_ok _ (by omega)) (enc (en_X4_begin_ok _ (by omega)) (enc (en_X11_hoursLeft_ok _ (by omega)) (enc (en_X10_think_ok _ (by omega)) (enn)))))) (rmD rfl hR) hret
  rw [← eq_X11_storm   a0 s] at h
  refine ex_good hT (fun pc' ls' st' x' hh => ?_) 51 0 _ [] s h
  unfold ka_X11_storm at hh
  cases hb : Nat.beq pc' 31 with
  | true =>
    rw [hb] at hh
    have e9 := beq1 hb
    subst e9
    simp only [cond_true] at hh
    split at hh
    · obtain ⟨g0, hh1⟩ := gd_some hh
      have e0 := veq_of g0
      subst e0
      exact Gd.wk (gd_X11_storm_31 hT  _ _ _ _ _ _ hh1) (Lle.eq (Lle.eq (Lle.eq (Lle.eq (Lle.eq Lle.nil)))))
    · cases hh
  | false =>
    rw [hb] at hh
    simp only [cond_false] at hh
    cases hh

noncomputable def en_X11_storm  : En := fun _ av s k => match av with
  | [.ref r0, .int a0] => (gd (Nat.beq r0 0) (bI (f_X11_storm a0 s) k))
  | _ => none
set_option maxRecDepth 100000 in
set_option maxHeartbeats 4000000 in
theorem en_X11_storm_ok {l : Launch} {G : Gm} (D : Nat) (hD : 8 ≤ D) : enOK l G D 120 en_X11_storm := by
  intro ρ av x k r h
  unfold en_X11_storm at h
  split at h
  · obtain ⟨g0, h⟩ := gd_some h
    obtain ⟨q, h1, h2⟩ := bind_of h
    have e0 := beq1 g0
    subst e0
    obtain ⟨D', rfl⟩ : ∃ D', D = D' + 1 := ⟨D - 1, by omega⟩
    exact ⟨_, _, h2, run_X11_storm  _ _ _ h1 D' (by omega)⟩
  · cases h

/-! HatRank hatsAreAsTold -/
noncomputable def tb_X11_hatsAreAsTold (cal : Cal SS) : List (Nat × Ins SS) := [(0, e_aload 0 1), (1, e_getR opsS 11 0 4), (4, e_getI opsS 9 0 7), (7, e_aload 0 8), (8, e_getR opsS 11 9 11), (11, e_iload 2 12), (12, e_callV opsS cal 52 1 7 15), (15, e_callS cal 268 2 18), (18, e_istore 3 19), (19, e_iconst (0) 20), (20, e_istore 4 22), (22, e_iload 4 24), (24, e_iload 3 25), (25, e_cge 58 28), (28, e_aload 0 29), (29, e_getR opsS 11 9 32), (32, e_iload 2 33), (33, e_iload 4 35), (35, e_callV opsS cal 58 2 7 38), (38, e_aload 1 39), (39, e_getR opsS 2 0 42), (42, e_iload 4 44), (44, e_ald opsS 100 45), (45, e_i2l 46), (46, e_lcmp 47), (47, e_ifeq 52 50), (50, e_iconst (0) 51), (51, e_zret), (52, e_iinc 4 (1) 55), (55, e_goto 22), (58, e_iconst (1) 59), (59, e_zret)]
set_option maxRecDepth 100000 in
set_option maxHeartbeats 4000000 in
theorem tk_X11_hatsAreAsTold {ad0 : Nat → Nat} {G : Gm} {A : Nat → Prop} {p : Program} {l : Launch} {e : Env} {R : Room} {s0 : State} {m : MethodId} {args : Array Value} {below : List Frame} {meth : Method} {c : Code} {Q : State → Prop} {ρ : Type} {ret : Option Value → SS → Option ρ} {r : ρ} (X : Cx G A RX11 cX11_hatsAreAsTold 5 p s0 m args c) {D' : Nat} {cal : Cal SS} (hcal : calOK l G opsS D' cal) (hRm : ∀ k, k ≤ 21 → D' + 1 ≤ R.frames ∧ 8 + (k + 11) + 40 * D' ≤ R.locals) (hret : RetK G A cX11_hatsAreAsTold 113 6344 ad0 p l e R s0 m args below meth c Q opsS ret r .ireturn okZ) : ∀ q ∈ tb_X11_hatsAreAsTold cal, OKi G A 5 113 6344 ad0 p l e R s0 m args below meth c Q opsS ret r q.1 q.2 :=
    okc (ok_aload_n (j := 0) X (by decide +kernel) rfl rfl) (
    okc (ok_getR (ci := 11) (kf := 0) (idx := 10) (C := RX11) (T := TX11) (N := 15) X rfl (by decide) inX11 (by decide) wf_X11_10 (fun _ _ _ => rfl) (by decide +kernel) rfl) (
    okc (ok_getI (ci := 9) (kf := 0) (idx := 178) (C := RX9) (T := TX9) (N := 8) X rfl (by decide) inX9 (by decide) wf_X11_178 (fun _ _ _ => rfl) (by decide +kernel) rfl) (
    okc (ok_aload_n (j := 0) X (by decide +kernel) rfl rfl) (
    okc (ok_getR (ci := 11) (kf := 9) (idx := 81) (C := RX11) (T := TX11) (N := 15) X rfl (by decide) inX11 (by decide) wf_X11_81 (fun _ _ _ => rfl) (by decide +kernel) rfl) (
    okc (ok_iload_n (j := 2) X (by decide +kernel) rfl rfl) (
    okc (ok_callV (ci := 7) (C := RX7) (T := TX7) (N := 4) (Y := (yX7_lengthOf, cX7_lengthOf, 2, (some .int))) X hcal opsS_n md_X7_lengthOf rfl (by decide) rfl wc_X7_lengthOf wl_X11_352 wi_X7 wm_X7_lengthOf wv_X7_lengthOf (by decide +kernel) (hRm 2 (by decide)) (by decide +kernel) rfl) (
    okc (ok_callS (Y := (yJ9_min_7cf53, cJ9_min_7cf53, 2, (some .int))) X hcal opsS_n md_J9_min_7cf53 wc_J9_min_7cf53 wl_X11_355 wi_J9 ws_J9_min_7cf53 (by decide +kernel) (hRm 2 (by decide)) (by decide +kernel) rfl) (
    okc (ok_istore_n (j := 3) X (by decide +kernel) rfl rfl) (
    okc (ok_iconst (n := 0) X (by decide +kernel) rfl rfl) (
    okc (ok_istore X (by decide +kernel) rfl) (
    okc (ok_iload X (by decide +kernel) rfl) (
    okc (ok_iload_n (j := 3) X (by decide +kernel) rfl rfl) (
    okc (ok_cge (off := 33) X (by decide +kernel) (by decide) rfl) (
    okc (ok_aload_n (j := 0) X (by decide +kernel) rfl rfl) (
    okc (ok_getR (ci := 11) (kf := 9) (idx := 81) (C := RX11) (T := TX11) (N := 15) X rfl (by decide) inX11 (by decide) wf_X11_81 (fun _ _ _ => rfl) (by decide +kernel) rfl) (
    okc (ok_iload_n (j := 2) X (by decide +kernel) rfl rfl) (
    okc (ok_iload X (by decide +kernel) rfl) (
    okc (ok_callV (ci := 7) (C := RX7) (T := TX7) (N := 4) (Y := (yX7_get, cX7_get, 3, (some .long))) X hcal opsS_n md_X7_get rfl (by decide) rfl wc_X7_get wl_X11_296 wi_X7 wm_X7_get wv_X7_get (by decide +kernel) (hRm 3 (by decide)) (by decide +kernel) rfl) (
    okc (ok_aload_n (j := 1) X (by decide +kernel) rfl rfl) (
    okc (ok_getR (ci := 2) (kf := 0) (idx := 237) (C := RX2) (T := TX2) (N := 4) X rfl (by decide) inX2 (by decide) wf_X11_237 (fun _ _ _ => rfl) (by decide +kernel) rfl) (
    okc (ok_iload X (by decide +kernel) rfl) (
    okc (ok_iald X (by decide +kernel) rfl) (
    okc (ok_i2l X (by decide +kernel) rfl) (
    okc (ok_lcmp X (by decide +kernel) rfl) (
    okc (ok_ifeq (off := 5) X (by decide +kernel) (by decide) rfl) (
    okc (ok_iconst (n := 0) X (by decide +kernel) rfl rfl) (
    okc (ok_zret hret (by decide +kernel)) (
    okc (ok_iinc (n := 1) X (by decide +kernel) rfl rfl) (
    okc (ok_goto (off := -33) X (by decide +kernel) (by decide)) (
    okc (ok_iconst (n := 1) X (by decide +kernel) rfl rfl) (
    okc (ok_zret hret (by decide +kernel)) (
    okn))))))))))))))))))))))))))))))))
noncomputable def es_X11_hatsAreAsTold  : List (Nat × En) := [(52, en_X7_lengthOf), (268, en_J9_min_7cf53), (58, en_X7_get)]
noncomputable def ka_X11_hatsAreAsTold_22 (d : Nat)  (n : Nat) : Kn SS (Int32 × SS) := fun pc ls st s => bif Nat.beq pc 22 then (match ls, st with
    | [some y0, some y1, some (.int x2), some (.int x3), some (.int x4)], [] => (gd (veq y0 (.ref 0)) (gd (veq y1 (.ref d)) (F_X11_hatsAreAsTold_22 d n x2 x3 x4 s)))
    | _, _ => none) else (none)
set_option maxRecDepth 100000 in
set_option maxHeartbeats 4000000 in
theorem eq_X11_hatsAreAsTold_22 (d : Nat)  (hd : (Nat.beq d 30) = true) (n : Nat) (x2 : Int32) (x3 : Int32) (x4 : Int32) (s : SS) : ex (tb_X11_hatsAreAsTold (calE (es_X11_hatsAreAsTold))) rI [22] (ka_X11_hatsAreAsTold_22 d  n) 34 22 [some (.ref 0), some (.ref d), some (.int x2), some (.int x3), some (.int x4)] [] s = F_X11_hatsAreAsTold_22 d  (n + 1) x2 x3 x4 s := by
  rcases beq1 hd with rfl <;> rfl
set_option maxRecDepth 100000 in
set_option maxHeartbeats 4000000 in
theorem gd_X11_hatsAreAsTold_22 {ad0 : Nat → Nat} {G : Gm} {A : Nat → Prop} {p : Program} {l : Launch} {e : Env} {R : Room} {s0 : State} {m : MethodId} {args : Array Value} {below : List Frame} {meth : Method} {c : Code} {Q : State → Prop} {r : (Int32 × SS)} {d : Nat}  (hT : ∀ q ∈ tb_X11_hatsAreAsTold (calE (es_X11_hatsAreAsTold)), OKi G A 5 113 6344 ad0 p l e R s0 m args below meth c Q opsS rI r q.1 q.2)  (hd : (Nat.beq d 30) = true) : ∀ (n : Nat) (x2 : Int32) (x3 : Int32) (x4 : Int32) (s : SS), F_X11_hatsAreAsTold_22 d  n x2 x3 x4 s = some r → Gd G A 5 113 6344 ad0 p l e R s0 m args below meth c Q opsS 22 [some (.ref 0), some (.ref d), some (.int x2), some (.int x3), some (.int x4)] [] s := by
  intro n
  induction n with
  | zero =>
    intro x2 x3 x4 s hh
    exact absurd (show (none : Option (Int32 × SS)) = some r from hh) (by simp)
  | succ n ih =>
    intro x2 x3 x4 s hh
    rw [← eq_X11_hatsAreAsTold_22 d  hd n x2 x3 x4 s] at hh
    refine ex_good hT (fun pc' ls' st' x' hh => ?_) 34 22 _ [] s hh
    unfold ka_X11_hatsAreAsTold_22 at hh
    cases hb : Nat.beq pc' 22 with
    | true =>
      rw [hb] at hh
      have e9 := beq1 hb
      subst e9
      simp only [cond_true] at hh
      split at hh
      · obtain ⟨g0, hh1⟩ := gd_some hh
        have e0 := veq_of g0
        subst e0
        obtain ⟨g1, hh2⟩ := gd_some hh1
        have e1 := veq_of g1
        subst e1
        exact Gd.wk (ih _ _ _ _ hh2) (Lle.eq (Lle.eq (Lle.eq (Lle.eq (Lle.eq Lle.nil)))))
      · cases hh
    | false =>
      rw [hb] at hh
      simp only [cond_false] at hh
      cases hh

noncomputable def ka_X11_hatsAreAsTold (d : Nat) : Kn SS (Int32 × SS) := fun pc ls st s => bif Nat.beq pc 22 then (match ls, st with
    | [some y0, some y1, some (.int x2), some (.int x3), some (.int x4)], [] => (gd (veq y0 (.ref 0)) (gd (veq y1 (.ref d)) (F_X11_hatsAreAsTold_22 d fuel0 x2 x3 x4 s)))
    | _, _ => none) else (none)
set_option maxRecDepth 100000 in
set_option maxHeartbeats 4000000 in
theorem eq_X11_hatsAreAsTold (d : Nat) (hd : (Nat.beq d 30) = true) (a0 : Int32) (s : SS) : ex (tb_X11_hatsAreAsTold (calE (es_X11_hatsAreAsTold))) rI [22] (ka_X11_hatsAreAsTold d) 34 0 [some (.ref 0), some (.ref d), some (.int a0), none, none] [] s = f_X11_hatsAreAsTold d a0 s := by
  rcases beq1 hd with rfl <;> rfl
set_option maxRecDepth 100000 in
set_option maxHeartbeats 4000000 in
theorem run_X11_hatsAreAsTold {l : Launch} {G : Gm} {d : Nat} (hd : (Nat.beq d 30) = true) (a0 : Int32) (s : SS) (q : (Int32 × SS)) (h : f_X11_hatsAreAsTold d a0 s = some q) (D' : Nat) (hD : 4 ≤ D') : RunsM l G (D' + 1) (md 145) (embS s) [.ref 0, .ref d, .int a0] (some (.int q.1)) (embS q.2) := by
  rw [md_X11_hatsAreAsTold]
  refine runs_Z (plainFor_of_name (by decide +kernel)) (Nat.le_of_ble_eq_true rfl) rfl ?_
  intro A p e R s0 m args below meth c Q ad0 hR X hret
  have X : Cx G A RX11 cX11_hatsAreAsTold 5 p s0 m args c := X
  have hT := tk_X11_hatsAreAsTold X (calE_ok (es := es_X11_hatsAreAsTold) (enc (en_X7_lengthOf_ok _ (by omega)) (enc (en_J9_min_7cf53_ok _ (by omega)) (enc (en_X7_get_ok _ (by omega)) (enn))))) (rmD rfl hR) hret
  rw [← eq_X11_hatsAreAsTold d hd a0 s] at h
  refine ex_good hT (fun pc' ls' st' x' hh => ?_) 34 0 _ [] s h
  unfold ka_X11_hatsAreAsTold at hh
  cases hb : Nat.beq pc' 22 with
  | true =>
    rw [hb] at hh
    have e9 := beq1 hb
    subst e9
    simp only [cond_true] at hh
    split at hh
    · obtain ⟨g0, hh1⟩ := gd_some hh
      have e0 := veq_of g0
      subst e0
      obtain ⟨g1, hh2⟩ := gd_some hh1
      have e1 := veq_of g1
      subst e1
      exact Gd.wk (gd_X11_hatsAreAsTold_22 hT hd _ _ _ _ _ hh2) (Lle.eq (Lle.eq (Lle.eq (Lle.eq (Lle.eq Lle.nil)))))
    · cases hh
  | false =>
    rw [hb] at hh
    simp only [cond_false] at hh
    cases hh

noncomputable def en_X11_hatsAreAsTold  : En := fun _ av s k => match av with
  | [.ref r0, .ref d, .int a0] => (gd (Nat.beq r0 0) (gd (Nat.beq d 30) (bI (f_X11_hatsAreAsTold d a0 s) k)))
  | _ => none
set_option maxRecDepth 100000 in
set_option maxHeartbeats 4000000 in
theorem en_X11_hatsAreAsTold_ok {l : Launch} {G : Gm} (D : Nat) (hD : 5 ≤ D) : enOK l G D 145 en_X11_hatsAreAsTold := by
  intro ρ av x k r h
  unfold en_X11_hatsAreAsTold at h
  split at h
  · obtain ⟨g0, h⟩ := gd_some h
    obtain ⟨g1, h⟩ := gd_some h
    obtain ⟨q, h1, h2⟩ := bind_of h
    have e0 := beq1 g0
    subst e0
    obtain ⟨D', rfl⟩ : ∃ D', D = D' + 1 := ⟨D - 1, by omega⟩
    exact ⟨_, _, h2, run_X11_hatsAreAsTold g1 _ _ _ h1 D' (by omega)⟩
  · cases h

/-! HatRank seeded -/
noncomputable def tb_X11_seeded (cal : Cal SS) : List (Nat × Ins SS) := [(0, e_aload 0 1), (1, e_getR opsS 11 9 4), (4, e_iload 1 5), (5, e_callV opsS cal 47 1 7 8), (8, e_ifeq 21 11), (11, e_iload 2 12), (12, e_iconst (0) 13), (13, e_iconst (24) 15), (15, e_callS cal 136 3 18), (18, e_ifne 23 21), (21, e_iconst (-1) 22), (22, e_iret), (23, e_aload 0 24), (24, e_getR opsS 11 9 27), (27, e_iload 1 28), (28, e_callV opsS cal 48 1 7 31), (31, e_ifeq 37 34), (34, e_iconst (-11) 36), (36, e_iret), (37, e_aload 0 38), (38, e_getR opsS 11 9 41), (41, e_iload 1 42), (42, e_callV opsS cal 49 1 7 45), (45, e_ifne 51 48), (48, e_iconst (-12) 50), (50, e_iret), (51, e_iload 2 52), (52, e_aload 0 53), (53, e_callV opsS cal 137 0 11 56), (56, e_cle 62 59), (59, e_iconst (-5) 61), (61, e_iret), (62, e_aload 0 63), (63, e_getR opsS 11 3 66), (66, e_iconst (0) 67), (67, e_callV opsS cal 31 1 4 70), (70, e_iconst (0) 71), (71, e_istore 3 72), (72, e_iload 3 73), (73, e_iconst (100) 75), (75, e_cge 107 78), (78, e_aload 0 79), (79, e_aload 0 80), (80, e_getR opsS 11 4 83), (83, e_aload 0 84), (84, e_getR opsS 11 1 87), (87, e_iload 3 88), (88, e_iload 2 89), (89, e_callV opsS cal 90 3 10 92), (92, e_iload 1 93), (93, e_callV opsS cal 145 2 11 96), (96, e_ifeq 101 99), (99, e_iload 3 100), (100, e_iret), (101, e_iinc 3 (1) 104), (104, e_goto 72), (107, e_iconst (-2) 109), (109, e_iret)]
set_option maxRecDepth 100000 in
set_option maxHeartbeats 4000000 in
theorem tk_X11_seeded {ad0 : Nat → Nat} {G : Gm} {A : Nat → Prop} {p : Program} {l : Launch} {e : Env} {R : Room} {s0 : State} {m : MethodId} {args : Array Value} {below : List Frame} {meth : Method} {c : Code} {Q : State → Prop} {ρ : Type} {ret : Option Value → SS → Option ρ} {r : ρ} (X : Cx G A RX11 cX11_seeded 4 p s0 m args c) {D' : Nat} {cal : Cal SS} (hcal : calOK l G opsS D' cal) (hRm : ∀ k, k ≤ 21 → D' + 1 ≤ R.frames ∧ 8 + (k + 11) + 40 * D' ≤ R.locals) (hret : RetK G A cX11_seeded 113 6344 ad0 p l e R s0 m args below meth c Q opsS ret r .ireturn okI) : ∀ q ∈ tb_X11_seeded cal, OKi G A 4 113 6344 ad0 p l e R s0 m args below meth c Q opsS ret r q.1 q.2 :=
    okc (ok_aload_n (j := 0) X (by decide +kernel) rfl rfl) (
    okc (ok_getR (ci := 11) (kf := 9) (idx := 81) (C := RX11) (T := TX11) (N := 15) X rfl (by decide) inX11 (by decide) wf_X11_81 (fun _ _ _ => rfl) (by decide +kernel) rfl) (
    okc (ok_iload_n (j := 1) X (by decide +kernel) rfl rfl) (
    okc (ok_callV (ci := 7) (C := RX7) (T := TX7) (N := 4) (Y := (yX7_has, cX7_has, 2, (some .boolean))) X hcal opsS_n md_X7_has rfl (by decide) rfl wc_X7_has wl_X11_116 wi_X7 wm_X7_has wv_X7_has (by decide +kernel) (hRm 2 (by decide)) (by decide +kernel) rfl) (
    okc (ok_ifeq (off := 13) X (by decide +kernel) (by decide) rfl) (
    okc (ok_iload_n (j := 2) X (by decide +kernel) rfl rfl) (
    okc (ok_iconst (n := 0) X (by decide +kernel) rfl rfl) (
    okc (ok_bipush (n := 24) X (by decide +kernel) rfl rfl) (
    okc (ok_callS (Y := (yX11_within, cX11_within, 3, (some .boolean))) X hcal opsS_n md_X11_within wc_X11_within wl_X11_92 wi_X11 ws_X11_within (by decide +kernel) (hRm 3 (by decide)) (by decide +kernel) rfl) (
    okc (ok_ifne (off := 5) X (by decide +kernel) (by decide) rfl) (
    okc (ok_iconst (n := -1) X (by decide +kernel) rfl rfl) (
    okc (ok_iret hret (by decide +kernel)) (
    okc (ok_aload_n (j := 0) X (by decide +kernel) rfl rfl) (
    okc (ok_getR (ci := 11) (kf := 9) (idx := 81) (C := RX11) (T := TX11) (N := 15) X rfl (by decide) inX11 (by decide) wf_X11_81 (fun _ _ _ => rfl) (by decide +kernel) rfl) (
    okc (ok_iload_n (j := 1) X (by decide +kernel) rfl rfl) (
    okc (ok_callV (ci := 7) (C := RX7) (T := TX7) (N := 4) (Y := (yX7_holdsNothing, cX7_holdsNothing, 2, (some .boolean))) X hcal opsS_n md_X7_holdsNothing rfl (by decide) rfl wc_X7_holdsNothing wl_X11_119 wi_X7 wm_X7_holdsNothing wv_X7_holdsNothing (by decide +kernel) (hRm 2 (by decide)) (by decide +kernel) rfl) (
    okc (ok_ifeq (off := 6) X (by decide +kernel) (by decide) rfl) (
    okc (ok_bipush (n := -11) X (by decide +kernel) rfl rfl) (
    okc (ok_iret hret (by decide +kernel)) (
    okc (ok_aload_n (j := 0) X (by decide +kernel) rfl rfl) (
    okc (ok_getR (ci := 11) (kf := 9) (idx := 81) (C := RX11) (T := TX11) (N := 15) X rfl (by decide) inX11 (by decide) wf_X11_81 (fun _ _ _ => rfl) (by decide +kernel) rfl) (
    okc (ok_iload_n (j := 1) X (by decide +kernel) rfl rfl) (
    okc (ok_callV (ci := 7) (C := RX7) (T := TX7) (N := 4) (Y := (yX7_holdsBytes, cX7_holdsBytes, 2, (some .boolean))) X hcal opsS_n md_X7_holdsBytes rfl (by decide) rfl wc_X7_holdsBytes wl_X11_122 wi_X7 wm_X7_holdsBytes wv_X7_holdsBytes (by decide +kernel) (hRm 2 (by decide)) (by decide +kernel) rfl) (
    okc (ok_ifne (off := 6) X (by decide +kernel) (by decide) rfl) (
    okc (ok_bipush (n := -12) X (by decide +kernel) rfl rfl) (
    okc (ok_iret hret (by decide +kernel)) (
    okc (ok_iload_n (j := 2) X (by decide +kernel) rfl rfl) (
    okc (ok_aload_n (j := 0) X (by decide +kernel) rfl rfl) (
    okc (ok_callV (ci := 11) (C := RX11) (T := TX11) (N := 15) (Y := (yX11_hoursLeft, cX11_hoursLeft, 1, (some .int))) X hcal opsS_n md_X11_hoursLeft rfl (by decide) rfl wc_X11_hoursLeft wl_X11_157 wi_X11 wm_X11_hoursLeft wv_X11_hoursLeft (by decide +kernel) (hRm 1 (by decide)) (by decide +kernel) rfl) (
    okc (ok_cle (off := 6) X (by decide +kernel) (by decide) rfl) (
    okc (ok_bipush (n := -5) X (by decide +kernel) rfl rfl) (
    okc (ok_iret hret (by decide +kernel)) (
    okc (ok_aload_n (j := 0) X (by decide +kernel) rfl rfl) (
    okc (ok_getR (ci := 11) (kf := 3) (idx := 35) (C := RX11) (T := TX11) (N := 15) X rfl (by decide) inX11 (by decide) wf_X11_35 (fun _ _ _ => rfl) (by decide +kernel) rfl) (
    okc (ok_iconst (n := 0) X (by decide +kernel) rfl rfl) (
    okc (ok_callV (ci := 4) (C := RX4) (T := TX4) (N := 4) (Y := (yX4_begin, cX4_begin, 2, none)) X hcal opsS_n md_X4_begin rfl (by decide) rfl wc_X4_begin wl_X11_160 wi_X4 wm_X4_begin wv_X4_begin (by decide +kernel) (hRm 2 (by decide)) (by decide +kernel) rfl) (
    okc (ok_iconst (n := 0) X (by decide +kernel) rfl rfl) (
    okc (ok_istore_n (j := 3) X (by decide +kernel) rfl rfl) (
    okc (ok_iload_n (j := 3) X (by decide +kernel) rfl rfl) (
    okc (ok_bipush (n := 100) X (by decide +kernel) rfl rfl) (
    okc (ok_cge (off := 32) X (by decide +kernel) (by decide) rfl) (
    okc (ok_aload_n (j := 0) X (by decide +kernel) rfl rfl) (
    okc (ok_aload_n (j := 0) X (by decide +kernel) rfl rfl) (
    okc (ok_getR (ci := 11) (kf := 4) (idx := 44) (C := RX11) (T := TX11) (N := 15) X rfl (by decide) inX11 (by decide) wf_X11_44 (fun _ _ _ => rfl) (by decide +kernel) rfl) (
    okc (ok_aload_n (j := 0) X (by decide +kernel) rfl rfl) (
    okc (ok_getR (ci := 11) (kf := 1) (idx := 19) (C := RX11) (T := TX11) (N := 15) X rfl (by decide) inX11 (by decide) wf_X11_19 (fun _ _ _ => rfl) (by decide +kernel) rfl) (
    okc (ok_iload_n (j := 3) X (by decide +kernel) rfl rfl) (
    okc (ok_iload_n (j := 2) X (by decide +kernel) rfl rfl) (
    okc (ok_callV (ci := 10) (C := RX10) (T := TX10) (N := 4) (Y := (yX10_think, cX10_think, 4, (some (.object "HatRank$Day")))) X hcal opsS_n md_X10_think rfl (by decide) rfl wc_X10_think wl_X11_233 wi_X10 wm_X10_think wv_X10_think (by decide +kernel) (hRm 4 (by decide)) (by decide +kernel) rfl) (
    okc (ok_iload_n (j := 1) X (by decide +kernel) rfl rfl) (
    okc (ok_callV (ci := 11) (C := RX11) (T := TX11) (N := 15) (Y := (yX11_hatsAreAsTold, cX11_hatsAreAsTold, 5, (some .boolean))) X hcal opsS_n md_X11_hatsAreAsTold rfl (by decide) rfl wc_X11_hatsAreAsTold wl_X11_242 wi_X11 wm_X11_hatsAreAsTold wv_X11_hatsAreAsTold (by decide +kernel) (hRm 5 (by decide)) (by decide +kernel) rfl) (
    okc (ok_ifeq (off := 5) X (by decide +kernel) (by decide) rfl) (
    okc (ok_iload_n (j := 3) X (by decide +kernel) rfl rfl) (
    okc (ok_iret hret (by decide +kernel)) (
    okc (ok_iinc (n := 1) X (by decide +kernel) rfl rfl) (
    okc (ok_goto (off := -32) X (by decide +kernel) (by decide)) (
    okc (ok_bipush (n := -2) X (by decide +kernel) rfl rfl) (
    okc (ok_iret hret (by decide +kernel)) (
    okn))))))))))))))))))))))))))))))))))))))))))))))))))))))))))
noncomputable def es_X11_seeded  : List (Nat × En) := [(47, en_X7_has), (136, en_X11_within), (48, en_X7_holdsNothing), (49, en_X7_holdsBytes), (137, en_X11_hoursLeft), (31, en_X4_begin), (90, en_X10_think), (145, en_X11_hatsAreAsTold)]
noncomputable def ka_X11_seeded_72   (n : Nat) : Kn SS (Int32 × SS) := fun pc ls st s => bif Nat.beq pc 72 then (match ls, st with
    | [some y0, some (.int x1), some (.int x2), some (.int x3)], [] => (gd (veq y0 (.ref 0)) (F_X11_seeded_72 n x1 x2 x3 s))
    | _, _ => none) else (none)
set_option maxRecDepth 100000 in
set_option maxHeartbeats 4000000 in
theorem eq_X11_seeded_72    (n : Nat) (x1 : Int32) (x2 : Int32) (x3 : Int32) (s : SS) : ex (tb_X11_seeded (calE (es_X11_seeded))) rI [72] (ka_X11_seeded_72   n) 60 72 [some (.ref 0), some (.int x1), some (.int x2), some (.int x3)] [] s = F_X11_seeded_72   (n + 1) x1 x2 x3 s := by
  rfl
set_option maxRecDepth 100000 in
set_option maxHeartbeats 4000000 in
theorem gd_X11_seeded_72 {ad0 : Nat → Nat} {G : Gm} {A : Nat → Prop} {p : Program} {l : Launch} {e : Env} {R : Room} {s0 : State} {m : MethodId} {args : Array Value} {below : List Frame} {meth : Method} {c : Code} {Q : State → Prop} {r : (Int32 × SS)}   (hT : ∀ q ∈ tb_X11_seeded (calE (es_X11_seeded)), OKi G A 4 113 6344 ad0 p l e R s0 m args below meth c Q opsS rI r q.1 q.2)   : ∀ (n : Nat) (x1 : Int32) (x2 : Int32) (x3 : Int32) (s : SS), F_X11_seeded_72   n x1 x2 x3 s = some r → Gd G A 4 113 6344 ad0 p l e R s0 m args below meth c Q opsS 72 [some (.ref 0), some (.int x1), some (.int x2), some (.int x3)] [] s := by
  intro n
  induction n with
  | zero =>
    intro x1 x2 x3 s hh
    exact absurd (show (none : Option (Int32 × SS)) = some r from hh) (by simp)
  | succ n ih =>
    intro x1 x2 x3 s hh
    rw [← eq_X11_seeded_72    n x1 x2 x3 s] at hh
    refine ex_good hT (fun pc' ls' st' x' hh => ?_) 60 72 _ [] s hh
    unfold ka_X11_seeded_72 at hh
    cases hb : Nat.beq pc' 72 with
    | true =>
      rw [hb] at hh
      have e9 := beq1 hb
      subst e9
      simp only [cond_true] at hh
      split at hh
      · obtain ⟨g0, hh1⟩ := gd_some hh
        have e0 := veq_of g0
        subst e0
        exact Gd.wk (ih _ _ _ _ hh1) (Lle.eq (Lle.eq (Lle.eq (Lle.eq Lle.nil))))
      · cases hh
    | false =>
      rw [hb] at hh
      simp only [cond_false] at hh
      cases hh

noncomputable def ka_X11_seeded  : Kn SS (Int32 × SS) := fun pc ls st s => bif Nat.beq pc 72 then (match ls, st with
    | [some y0, some (.int x1), some (.int x2), some (.int x3)], [] => (gd (veq y0 (.ref 0)) (F_X11_seeded_72 fuel0 x1 x2 x3 s))
    | _, _ => none) else (none)
set_option maxRecDepth 100000 in
set_option maxHeartbeats 4000000 in
theorem eq_X11_seeded   (a0 : Int32) (a1 : Int32) (s : SS) : ex (tb_X11_seeded (calE (es_X11_seeded))) rI [72] (ka_X11_seeded ) 60 0 [some (.ref 0), some (.int a0), some (.int a1), none] [] s = f_X11_seeded a0 a1 s := by
  rfl
set_option maxRecDepth 100000 in
set_option maxHeartbeats 4000000 in
theorem run_X11_seeded {l : Launch} {G : Gm}   (a0 : Int32) (a1 : Int32) (s : SS) (q : (Int32 × SS)) (h : f_X11_seeded a0 a1 s = some q) (D' : Nat) (hD : 7 ≤ D') : RunsM l G (D' + 1) (md 121) (embS s) [.ref 0, .int a0, .int a1] (some (.int q.1)) (embS q.2) := by
  rw [md_X11_seeded]
  refine runs_I (plainFor_of_name (by decide +kernel)) (Nat.le_of_ble_eq_true rfl) rfl ?_
  intro A p e R s0 m args below meth c Q ad0 hR X hret
  have X : Cx G A RX11 cX11_seeded 4 p s0 m args c := X
  have hT := tk_X11_seeded X (calE_ok (es := es_X11_seeded) (enc (en_X7_has_ok _ (by omega)) (enc (en_X11_within_ok _ (by omega)) (enc (en_X7_holdsNothing_ok _ (by omega)) (enc (en_X7_holdsBytes_ok _ (by omega)) (enc (en_X11_hoursLeft_ok _ (by omega)) (enc (en_X4_begin_ok _ (by omega)) (enc (en_X10_think_ok _ (by omega)) (enc (en_X11_hatsAreAsTold_ok _ (by omega)) (enn)))))))))) (rmD rfl hR) hret
  rw [← eq_X11_seeded   a0 a1 s] at h
  refine ex_good hT (fun pc' ls' st' x' hh => ?_) 60 0 _ [] s h
  unfold ka_X11_seeded at hh
  cases hb : Nat.beq pc' 72 with
  | true =>
    rw [hb] at hh
    have e9 := beq1 hb
    subst e9
    simp only [cond_true] at hh
    split at hh
    · obtain ⟨g0, hh1⟩ := gd_some hh
      have e0 := veq_of g0
      subst e0
      exact Gd.wk (gd_X11_seeded_72 hT  _ _ _ _ _ hh1) (Lle.eq (Lle.eq (Lle.eq (Lle.eq Lle.nil))))
    · cases hh
  | false =>
    rw [hb] at hh
    simp only [cond_false] at hh
    cases hh

noncomputable def en_X11_seeded  : En := fun _ av s k => match av with
  | [.ref r0, .int a0, .int a1] => (gd (Nat.beq r0 0) (bI (f_X11_seeded a0 a1 s) k))
  | _ => none
set_option maxRecDepth 100000 in
set_option maxHeartbeats 4000000 in
theorem en_X11_seeded_ok {l : Launch} {G : Gm} (D : Nat) (hD : 8 ≤ D) : enOK l G D 121 en_X11_seeded := by
  intro ρ av x k r h
  unfold en_X11_seeded at h
  split at h
  · obtain ⟨g0, h⟩ := gd_some h
    obtain ⟨q, h1, h2⟩ := bind_of h
    have e0 := beq1 g0
    subst e0
    obtain ⟨D', rfl⟩ : ∃ D', D = D' + 1 := ⟨D - 1, by omega⟩
    exact ⟨_, _, h2, run_X11_seeded  _ _ _ _ h1 D' (by omega)⟩
  · cases h

/-! HatRank image -/
noncomputable def tb_X11_image (cal : Cal SS) : List (Nat × Ins SS) := [(0, e_aload 0 1), (1, e_getR opsS 11 11 4), (4, e_aload 0 5), (5, e_getR opsS 11 1 8), (8, e_callV opsS cal 18 1 2 11), (11, e_aload 0 12), (12, e_aload 0 13), (13, e_getR opsS 11 0 16), (16, e_getI opsS 9 0 19), (19, e_putI opsS 11 13 22), (22, e_aload 0 23), (23, e_aload 0 24), (24, e_getR opsS 11 0 27), (27, e_getI opsS 9 1 30), (30, e_putI opsS 11 14 33), (33, e_aload 0 34), (34, e_iconst (1) 35), (35, e_putZ opsS 11 12 38), (38, e_aload 0 39), (39, e_getR opsS 11 1 42), (42, e_getI opsS 2 3 45), (45, e_iret)]
set_option maxRecDepth 100000 in
set_option maxHeartbeats 4000000 in
theorem tk_X11_image {ad0 : Nat → Nat} {G : Gm} {A : Nat → Prop} {p : Program} {l : Launch} {e : Env} {R : Room} {s0 : State} {m : MethodId} {args : Array Value} {below : List Frame} {meth : Method} {c : Code} {Q : State → Prop} {ρ : Type} {ret : Option Value → SS → Option ρ} {r : ρ} (X : Cx G A RX11 cX11_image 1 p s0 m args c) {D' : Nat} {cal : Cal SS} (hcal : calOK l G opsS D' cal) (hRm : ∀ k, k ≤ 21 → D' + 1 ≤ R.frames ∧ 8 + (k + 11) + 40 * D' ≤ R.locals) (hret : RetK G A cX11_image 113 6344 ad0 p l e R s0 m args below meth c Q opsS ret r .ireturn okI) : ∀ q ∈ tb_X11_image cal, OKi G A 1 113 6344 ad0 p l e R s0 m args below meth c Q opsS ret r q.1 q.2 :=
    okc (ok_aload_n (j := 0) X (by decide +kernel) rfl rfl) (
    okc (ok_getR (ci := 11) (kf := 11) (idx := 89) (C := RX11) (T := TX11) (N := 15) X rfl (by decide) inX11 (by decide) wf_X11_89 (fun _ _ _ => rfl) (by decide +kernel) rfl) (
    okc (ok_aload_n (j := 0) X (by decide +kernel) rfl rfl) (
    okc (ok_getR (ci := 11) (kf := 1) (idx := 19) (C := RX11) (T := TX11) (N := 15) X rfl (by decide) inX11 (by decide) wf_X11_19 (fun _ _ _ => rfl) (by decide +kernel) rfl) (
    okc (ok_callV (ci := 2) (C := RX2) (T := TX2) (N := 4) (Y := (yX2_become, cX2_become, 2, none)) X hcal opsS_n md_X2_become rfl (by decide) rfl wc_X2_become wl_X11_246 wi_X2 wm_X2_become wv_X2_become (by decide +kernel) (hRm 2 (by decide)) (by decide +kernel) rfl) (
    okc (ok_aload_n (j := 0) X (by decide +kernel) rfl rfl) (
    okc (ok_aload_n (j := 0) X (by decide +kernel) rfl rfl) (
    okc (ok_getR (ci := 11) (kf := 0) (idx := 10) (C := RX11) (T := TX11) (N := 15) X rfl (by decide) inX11 (by decide) wf_X11_10 (fun _ _ _ => rfl) (by decide +kernel) rfl) (
    okc (ok_getI (ci := 9) (kf := 0) (idx := 178) (C := RX9) (T := TX9) (N := 8) X rfl (by decide) inX9 (by decide) wf_X11_178 (fun _ _ _ => rfl) (by decide +kernel) rfl) (
    okc (ok_putI (ci := 11) (kf := 13) (idx := 250) (C := RX11) (T := TX11) (N := 15) X opsS_ok rfl (by decide) inX11 tyX11_ok nmX11 (by decide) wf_X11_250 rfl (fun _ _ _ => rfl) (by decide +kernel) (by decide +kernel) rfl) (
    okc (ok_aload_n (j := 0) X (by decide +kernel) rfl rfl) (
    okc (ok_aload_n (j := 0) X (by decide +kernel) rfl rfl) (
    okc (ok_getR (ci := 11) (kf := 0) (idx := 10) (C := RX11) (T := TX11) (N := 15) X rfl (by decide) inX11 (by decide) wf_X11_10 (fun _ _ _ => rfl) (by decide +kernel) rfl) (
    okc (ok_getI (ci := 9) (kf := 1) (idx := 226) (C := RX9) (T := TX9) (N := 8) X rfl (by decide) inX9 (by decide) wf_X11_226 (fun _ _ _ => rfl) (by decide +kernel) rfl) (
    okc (ok_putI (ci := 11) (kf := 14) (idx := 253) (C := RX11) (T := TX11) (N := 15) X opsS_ok rfl (by decide) inX11 tyX11_ok nmX11 (by decide) wf_X11_253 rfl (fun _ _ _ => rfl) (by decide +kernel) (by decide +kernel) rfl) (
    okc (ok_aload_n (j := 0) X (by decide +kernel) rfl rfl) (
    okc (ok_iconst (n := 1) X (by decide +kernel) rfl rfl) (
    okc (ok_putZ (ci := 11) (kf := 12) (idx := 256) (C := RX11) (T := TX11) (N := 15) X opsS_ok rfl (by decide) inX11 tyX11_ok nmX11 (by decide) wf_X11_256 rfl (fun _ _ _ => rfl) (by decide +kernel) (by decide +kernel) rfl) (
    okc (ok_aload_n (j := 0) X (by decide +kernel) rfl rfl) (
    okc (ok_getR (ci := 11) (kf := 1) (idx := 19) (C := RX11) (T := TX11) (N := 15) X rfl (by decide) inX11 (by decide) wf_X11_19 (fun _ _ _ => rfl) (by decide +kernel) rfl) (
    okc (ok_getI (ci := 2) (kf := 3) (idx := 194) (C := RX2) (T := TX2) (N := 4) X rfl (by decide) inX2 (by decide) wf_X11_194 (fun _ _ _ => rfl) (by decide +kernel) rfl) (
    okc (ok_iret hret (by decide +kernel)) (
    okn))))))))))))))))))))))
noncomputable def es_X11_image  : List (Nat × En) := [(18, en_X2_become)]
set_option maxRecDepth 100000 in
set_option maxHeartbeats 4000000 in
theorem eq_X11_image    (s : SS) : ex (tb_X11_image (calE (es_X11_image))) rI [] (fun _ _ _ _ => none) 24 0 [some (.ref 0)] [] s = f_X11_image  s := by
  rfl
set_option maxRecDepth 100000 in
set_option maxHeartbeats 4000000 in
theorem run_X11_image {l : Launch} {G : Gm}    (s : SS) (q : (Int32 × SS)) (h : f_X11_image  s = some q) (D' : Nat) (hD : 1 ≤ D') : RunsM l G (D' + 1) (md 122) (embS s) [.ref 0] (some (.int q.1)) (embS q.2) := by
  rw [md_X11_image]
  refine runs_I (plainFor_of_name (by decide +kernel)) (Nat.le_of_ble_eq_true rfl) rfl ?_
  intro A p e R s0 m args below meth c Q ad0 hR X hret
  have X : Cx G A RX11 cX11_image 1 p s0 m args c := X
  have hT := tk_X11_image X (calE_ok (es := es_X11_image) (enc (en_X2_become_ok _ (by omega)) (enn))) (rmD rfl hR) hret
  rw [← eq_X11_image    s] at h
  refine ex_good hT (fun pc' ls' st' x' hh => ?_) 24 0 _ [] s h
  cases hh

noncomputable def en_X11_image  : En := fun _ av s k => match av with
  | [.ref r0] => (gd (Nat.beq r0 0) (bI (f_X11_image  s) k))
  | _ => none
set_option maxRecDepth 100000 in
set_option maxHeartbeats 4000000 in
theorem en_X11_image_ok {l : Launch} {G : Gm} (D : Nat) (hD : 2 ≤ D) : enOK l G D 122 en_X11_image := by
  intro ρ av x k r h
  unfold en_X11_image at h
  split at h
  · obtain ⟨g0, h⟩ := gd_some h
    obtain ⟨q, h1, h2⟩ := bind_of h
    have e0 := beq1 g0
    subst e0
    obtain ⟨D', rfl⟩ : ∃ D', D = D' + 1 := ⟨D - 1, by omega⟩
    exact ⟨_, _, h2, run_X11_image   _ _ h1 D' (by omega)⟩
  · cases h

/-! HatRank back -/
noncomputable def tb_X11_back (cal : Cal SS) : List (Nat × Ins SS) := [(0, e_aload 0 1), (1, e_getI opsS 11 12 4), (4, e_ifne 10 7), (7, e_iconst (-5) 9), (9, e_iret), (10, e_iconst (0) 11), (11, e_istore 1 12), (12, e_iload 1 13), (13, e_aload 0 14), (14, e_getI opsS 11 13 17), (17, e_cge 62 20), (20, e_aload 0 21), (21, e_getR opsS 11 1 24), (24, e_getR opsS 2 0 27), (27, e_iload 1 28), (28, e_aload 0 29), (29, e_getR opsS 11 11 32), (32, e_getR opsS 2 0 35), (35, e_iload 1 36), (36, e_ald opsS 100 37), (37, e_ast opsS 100 (fun v => v) 38), (38, e_aload 0 39), (39, e_getR opsS 11 1 42), (42, e_getR opsS 2 1 45), (45, e_iload 1 46), (46, e_aload 0 47), (47, e_getR opsS 11 11 50), (50, e_getR opsS 2 1 53), (53, e_iload 1 54), (54, e_ald opsS 100 55), (55, e_ast opsS 100 (fun v => v) 56), (56, e_iinc 1 (1) 59), (59, e_goto 12), (62, e_iconst (0) 63), (63, e_istore 1 64), (64, e_iload 1 65), (65, e_aload 0 66), (66, e_getI opsS 11 14 69), (69, e_cge 96 72), (72, e_aload 0 73), (73, e_getR opsS 11 1 76), (76, e_getR opsS 2 2 79), (79, e_iload 1 80), (80, e_aload 0 81), (81, e_getR opsS 11 11 84), (84, e_getR opsS 2 2 87), (87, e_iload 1 88), (88, e_ald opsS 100 89), (89, e_ast opsS 100 (fun v => v) 90), (90, e_iinc 1 (1) 93), (93, e_goto 64), (96, e_aload 0 97), (97, e_getR opsS 11 1 100), (100, e_aload 0 101), (101, e_getR opsS 11 11 104), (104, e_getI opsS 2 3 107), (107, e_putI opsS 2 3 110), (110, e_aload 0 111), (111, e_getR opsS 11 1 114), (114, e_getI opsS 2 3 117), (117, e_iret)]
set_option maxRecDepth 100000 in
set_option maxHeartbeats 4000000 in
theorem tk_X11_back {ad0 : Nat → Nat} {G : Gm} {A : Nat → Prop} {p : Program} {l : Launch} {e : Env} {R : Room} {s0 : State} {m : MethodId} {args : Array Value} {below : List Frame} {meth : Method} {c : Code} {Q : State → Prop} {ρ : Type} {ret : Option Value → SS → Option ρ} {r : ρ} (X : Cx G A RX11 cX11_back 2 p s0 m args c) {D' : Nat} {cal : Cal SS} (hcal : calOK l G opsS D' cal) (hRm : ∀ k, k ≤ 21 → D' + 1 ≤ R.frames ∧ 8 + (k + 11) + 40 * D' ≤ R.locals) (hret : RetK G A cX11_back 113 6344 ad0 p l e R s0 m args below meth c Q opsS ret r .ireturn okI) : ∀ q ∈ tb_X11_back cal, OKi G A 2 113 6344 ad0 p l e R s0 m args below meth c Q opsS ret r q.1 q.2 :=
    okc (ok_aload_n (j := 0) X (by decide +kernel) rfl rfl) (
    okc (ok_getI (ci := 11) (kf := 12) (idx := 256) (C := RX11) (T := TX11) (N := 15) X rfl (by decide) inX11 (by decide) wf_X11_256 (fun _ _ _ => rfl) (by decide +kernel) rfl) (
    okc (ok_ifne (off := 6) X (by decide +kernel) (by decide) rfl) (
    okc (ok_bipush (n := -5) X (by decide +kernel) rfl rfl) (
    okc (ok_iret hret (by decide +kernel)) (
    okc (ok_iconst (n := 0) X (by decide +kernel) rfl rfl) (
    okc (ok_istore_n (j := 1) X (by decide +kernel) rfl rfl) (
    okc (ok_iload_n (j := 1) X (by decide +kernel) rfl rfl) (
    okc (ok_aload_n (j := 0) X (by decide +kernel) rfl rfl) (
    okc (ok_getI (ci := 11) (kf := 13) (idx := 250) (C := RX11) (T := TX11) (N := 15) X rfl (by decide) inX11 (by decide) wf_X11_250 (fun _ _ _ => rfl) (by decide +kernel) rfl) (
    okc (ok_cge (off := 45) X (by decide +kernel) (by decide) rfl) (
    okc (ok_aload_n (j := 0) X (by decide +kernel) rfl rfl) (
    okc (ok_getR (ci := 11) (kf := 1) (idx := 19) (C := RX11) (T := TX11) (N := 15) X rfl (by decide) inX11 (by decide) wf_X11_19 (fun _ _ _ => rfl) (by decide +kernel) rfl) (
    okc (ok_getR (ci := 2) (kf := 0) (idx := 237) (C := RX2) (T := TX2) (N := 4) X rfl (by decide) inX2 (by decide) wf_X11_237 (fun _ _ _ => rfl) (by decide +kernel) rfl) (
    okc (ok_iload_n (j := 1) X (by decide +kernel) rfl rfl) (
    okc (ok_aload_n (j := 0) X (by decide +kernel) rfl rfl) (
    okc (ok_getR (ci := 11) (kf := 11) (idx := 89) (C := RX11) (T := TX11) (N := 15) X rfl (by decide) inX11 (by decide) wf_X11_89 (fun _ _ _ => rfl) (by decide +kernel) rfl) (
    okc (ok_getR (ci := 2) (kf := 0) (idx := 237) (C := RX2) (T := TX2) (N := 4) X rfl (by decide) inX2 (by decide) wf_X11_237 (fun _ _ _ => rfl) (by decide +kernel) rfl) (
    okc (ok_iload_n (j := 1) X (by decide +kernel) rfl rfl) (
    okc (ok_iald X (by decide +kernel) rfl) (
    okc (ok_iast X opsS_ok (by decide +kernel) rfl) (
    okc (ok_aload_n (j := 0) X (by decide +kernel) rfl rfl) (
    okc (ok_getR (ci := 11) (kf := 1) (idx := 19) (C := RX11) (T := TX11) (N := 15) X rfl (by decide) inX11 (by decide) wf_X11_19 (fun _ _ _ => rfl) (by decide +kernel) rfl) (
    okc (ok_getR (ci := 2) (kf := 1) (idx := 172) (C := RX2) (T := TX2) (N := 4) X rfl (by decide) inX2 (by decide) wf_X11_172 (fun _ _ _ => rfl) (by decide +kernel) rfl) (
    okc (ok_iload_n (j := 1) X (by decide +kernel) rfl rfl) (
    okc (ok_aload_n (j := 0) X (by decide +kernel) rfl rfl) (
    okc (ok_getR (ci := 11) (kf := 11) (idx := 89) (C := RX11) (T := TX11) (N := 15) X rfl (by decide) inX11 (by decide) wf_X11_89 (fun _ _ _ => rfl) (by decide +kernel) rfl) (
    okc (ok_getR (ci := 2) (kf := 1) (idx := 172) (C := RX2) (T := TX2) (N := 4) X rfl (by decide) inX2 (by decide) wf_X11_172 (fun _ _ _ => rfl) (by decide +kernel) rfl) (
    okc (ok_iload_n (j := 1) X (by decide +kernel) rfl rfl) (
    okc (ok_iald X (by decide +kernel) rfl) (
    okc (ok_iast X opsS_ok (by decide +kernel) rfl) (
    okc (ok_iinc (n := 1) X (by decide +kernel) rfl rfl) (
    okc (ok_goto (off := -47) X (by decide +kernel) (by decide)) (
    okc (ok_iconst (n := 0) X (by decide +kernel) rfl rfl) (
    okc (ok_istore_n (j := 1) X (by decide +kernel) rfl rfl) (
    okc (ok_iload_n (j := 1) X (by decide +kernel) rfl rfl) (
    okc (ok_aload_n (j := 0) X (by decide +kernel) rfl rfl) (
    okc (ok_getI (ci := 11) (kf := 14) (idx := 253) (C := RX11) (T := TX11) (N := 15) X rfl (by decide) inX11 (by decide) wf_X11_253 (fun _ _ _ => rfl) (by decide +kernel) rfl) (
    okc (ok_cge (off := 27) X (by decide +kernel) (by decide) rfl) (
    okc (ok_aload_n (j := 0) X (by decide +kernel) rfl rfl) (
    okc (ok_getR (ci := 11) (kf := 1) (idx := 19) (C := RX11) (T := TX11) (N := 15) X rfl (by decide) inX11 (by decide) wf_X11_19 (fun _ _ _ => rfl) (by decide +kernel) rfl) (
    okc (ok_getR (ci := 2) (kf := 2) (idx := 175) (C := RX2) (T := TX2) (N := 4) X rfl (by decide) inX2 (by decide) wf_X11_175 (fun _ _ _ => rfl) (by decide +kernel) rfl) (
    okc (ok_iload_n (j := 1) X (by decide +kernel) rfl rfl) (
    okc (ok_aload_n (j := 0) X (by decide +kernel) rfl rfl) (
    okc (ok_getR (ci := 11) (kf := 11) (idx := 89) (C := RX11) (T := TX11) (N := 15) X rfl (by decide) inX11 (by decide) wf_X11_89 (fun _ _ _ => rfl) (by decide +kernel) rfl) (
    okc (ok_getR (ci := 2) (kf := 2) (idx := 175) (C := RX2) (T := TX2) (N := 4) X rfl (by decide) inX2 (by decide) wf_X11_175 (fun _ _ _ => rfl) (by decide +kernel) rfl) (
    okc (ok_iload_n (j := 1) X (by decide +kernel) rfl rfl) (
    okc (ok_iald X (by decide +kernel) rfl) (
    okc (ok_iast X opsS_ok (by decide +kernel) rfl) (
    okc (ok_iinc (n := 1) X (by decide +kernel) rfl rfl) (
    okc (ok_goto (off := -29) X (by decide +kernel) (by decide)) (
    okc (ok_aload_n (j := 0) X (by decide +kernel) rfl rfl) (
    okc (ok_getR (ci := 11) (kf := 1) (idx := 19) (C := RX11) (T := TX11) (N := 15) X rfl (by decide) inX11 (by decide) wf_X11_19 (fun _ _ _ => rfl) (by decide +kernel) rfl) (
    okc (ok_aload_n (j := 0) X (by decide +kernel) rfl rfl) (
    okc (ok_getR (ci := 11) (kf := 11) (idx := 89) (C := RX11) (T := TX11) (N := 15) X rfl (by decide) inX11 (by decide) wf_X11_89 (fun _ _ _ => rfl) (by decide +kernel) rfl) (
    okc (ok_getI (ci := 2) (kf := 3) (idx := 194) (C := RX2) (T := TX2) (N := 4) X rfl (by decide) inX2 (by decide) wf_X11_194 (fun _ _ _ => rfl) (by decide +kernel) rfl) (
    okc (ok_putI (ci := 2) (kf := 3) (idx := 194) (C := RX2) (T := TX2) (N := 4) X opsS_ok rfl (by decide) inX2 tyX2_ok nmX2 (by decide) wf_X11_194 rfl (fun _ _ _ => rfl) (by decide +kernel) (by decide +kernel) rfl) (
    okc (ok_aload_n (j := 0) X (by decide +kernel) rfl rfl) (
    okc (ok_getR (ci := 11) (kf := 1) (idx := 19) (C := RX11) (T := TX11) (N := 15) X rfl (by decide) inX11 (by decide) wf_X11_19 (fun _ _ _ => rfl) (by decide +kernel) rfl) (
    okc (ok_getI (ci := 2) (kf := 3) (idx := 194) (C := RX2) (T := TX2) (N := 4) X rfl (by decide) inX2 (by decide) wf_X11_194 (fun _ _ _ => rfl) (by decide +kernel) rfl) (
    okc (ok_iret hret (by decide +kernel)) (
    okn)))))))))))))))))))))))))))))))))))))))))))))))))))))))))))))
noncomputable def es_X11_back  : List (Nat × En) := []
noncomputable def ka_X11_back_64   (n : Nat) : Kn SS (Int32 × SS) := fun pc ls st s => bif Nat.beq pc 64 then (match ls, st with
    | [some y0, some (.int x1)], [] => (gd (veq y0 (.ref 0)) (F_X11_back_64 n x1 s))
    | _, _ => none) else (none)
set_option maxRecDepth 100000 in
set_option maxHeartbeats 4000000 in
theorem eq_X11_back_64    (n : Nat) (x1 : Int32) (s : SS) : ex (tb_X11_back (calE (es_X11_back))) rI [12, 64] (ka_X11_back_64   n) 63 64 [some (.ref 0), some (.int x1)] [] s = F_X11_back_64   (n + 1) x1 s := by
  rfl
noncomputable def ka_X11_back_12   (n : Nat) : Kn SS (Int32 × SS) := fun pc ls st s => bif Nat.beq pc 12 then (match ls, st with
    | [some y0, some (.int x1)], [] => (gd (veq y0 (.ref 0)) (F_X11_back_12 n x1 s))
    | _, _ => none) else (bif Nat.beq pc 64 then (match ls, st with
    | [some y0, some (.int x1)], [] => (gd (veq y0 (.ref 0)) (F_X11_back_64 fuel0 x1 s))
    | _, _ => none) else (none))
set_option maxRecDepth 100000 in
set_option maxHeartbeats 4000000 in
theorem eq_X11_back_12    (n : Nat) (x1 : Int32) (s : SS) : ex (tb_X11_back (calE (es_X11_back))) rI [12, 64] (ka_X11_back_12   n) 63 12 [some (.ref 0), some (.int x1)] [] s = F_X11_back_12   (n + 1) x1 s := by
  rfl
set_option maxRecDepth 100000 in
set_option maxHeartbeats 4000000 in
theorem gd_X11_back_64 {ad0 : Nat → Nat} {G : Gm} {A : Nat → Prop} {p : Program} {l : Launch} {e : Env} {R : Room} {s0 : State} {m : MethodId} {args : Array Value} {below : List Frame} {meth : Method} {c : Code} {Q : State → Prop} {r : (Int32 × SS)}   (hT : ∀ q ∈ tb_X11_back (calE (es_X11_back)), OKi G A 2 113 6344 ad0 p l e R s0 m args below meth c Q opsS rI r q.1 q.2)   : ∀ (n : Nat) (x1 : Int32) (s : SS), F_X11_back_64   n x1 s = some r → Gd G A 2 113 6344 ad0 p l e R s0 m args below meth c Q opsS 64 [some (.ref 0), some (.int x1)] [] s := by
  intro n
  induction n with
  | zero =>
    intro x1 s hh
    exact absurd (show (none : Option (Int32 × SS)) = some r from hh) (by simp)
  | succ n ih =>
    intro x1 s hh
    rw [← eq_X11_back_64    n x1 s] at hh
    refine ex_good hT (fun pc' ls' st' x' hh => ?_) 63 64 _ [] s hh
    unfold ka_X11_back_64 at hh
    cases hb : Nat.beq pc' 64 with
    | true =>
      rw [hb] at hh
      have e9 := beq1 hb
      subst e9
      simp only [cond_true] at hh
      split at hh
      · obtain ⟨g0, hh1⟩ := gd_some hh
        have e0 := veq_of g0
        subst e0
        exact Gd.wk (ih _ _ hh1) (Lle.eq (Lle.eq Lle.nil))
      · cases hh
    | false =>
      rw [hb] at hh
      simp only [cond_false] at hh
      cases hh

set_option maxRecDepth 100000 in
set_option maxHeartbeats 4000000 in
theorem gd_X11_back_12 {ad0 : Nat → Nat} {G : Gm} {A : Nat → Prop} {p : Program} {l : Launch} {e : Env} {R : Room} {s0 : State} {m : MethodId} {args : Array Value} {below : List Frame} {meth : Method} {c : Code} {Q : State → Prop} {r : (Int32 × SS)}   (hT : ∀ q ∈ tb_X11_back (calE (es_X11_back)), OKi G A 2 113 6344 ad0 p l e R s0 m args below meth c Q opsS rI r q.1 q.2)   : ∀ (n : Nat) (x1 : Int32) (s : SS), F_X11_back_12   n x1 s = some r → Gd G A 2 113 6344 ad0 p l e R s0 m args below meth c Q opsS 12 [some (.ref 0), some (.int x1)] [] s := by
  intro n
  induction n with
  | zero =>
    intro x1 s hh
    exact absurd (show (none : Option (Int32 × SS)) = some r from hh) (by simp)
  | succ n ih =>
    intro x1 s hh
    rw [← eq_X11_back_12    n x1 s] at hh
    refine ex_good hT (fun pc' ls' st' x' hh => ?_) 63 12 _ [] s hh
    unfold ka_X11_back_12 at hh
    cases hb : Nat.beq pc' 12 with
    | true =>
      rw [hb] at hh
      have e9 := beq1 hb
      subst e9
      simp only [cond_true] at hh
      split at hh
      · obtain ⟨g0, hh1⟩ := gd_some hh
        have e0 := veq_of g0
        subst e0
        exact Gd.wk (ih _ _ hh1) (Lle.eq (Lle.eq Lle.nil))
      · cases hh
    | false =>
      rw [hb] at hh
      simp only [cond_false] at hh
      cases hb : Nat.beq pc' 64 with
      | true =>
        rw [hb] at hh
        have e9 := beq1 hb
        subst e9
        simp only [cond_true] at hh
        split at hh
        · obtain ⟨g0, hh1⟩ := gd_some hh
          have e0 := veq_of g0
          subst e0
          exact Gd.wk (gd_X11_back_64 hT   _ _ _ hh1) (Lle.eq (Lle.eq Lle.nil))
        · cases hh
      | false =>
        rw [hb] at hh
        simp only [cond_false] at hh
        cases hh

noncomputable def ka_X11_back  : Kn SS (Int32 × SS) := fun pc ls st s => bif Nat.beq pc 12 then (match ls, st with
    | [some y0, some (.int x1)], [] => (gd (veq y0 (.ref 0)) (F_X11_back_12 fuel0 x1 s))
    | _, _ => none) else (none)
set_option maxRecDepth 100000 in
set_option maxHeartbeats 4000000 in
theorem eq_X11_back    (s : SS) : ex (tb_X11_back (calE (es_X11_back))) rI [12, 64] (ka_X11_back ) 63 0 [some (.ref 0), none] [] s = f_X11_back  s := by
  rfl
set_option maxRecDepth 100000 in
set_option maxHeartbeats 4000000 in
theorem run_X11_back {l : Launch} {G : Gm}    (s : SS) (q : (Int32 × SS)) (h : f_X11_back  s = some q) (D' : Nat) (hD : 0 ≤ D') : RunsM l G (D' + 1) (md 123) (embS s) [.ref 0] (some (.int q.1)) (embS q.2) := by
  rw [md_X11_back]
  refine runs_I (plainFor_of_name (by decide +kernel)) (Nat.le_of_ble_eq_true rfl) rfl ?_
  intro A p e R s0 m args below meth c Q ad0 hR X hret
  have X : Cx G A RX11 cX11_back 2 p s0 m args c := X
  have hT := tk_X11_back X (calE_ok (es := es_X11_back) (enn)) (rmD rfl hR) hret
  rw [← eq_X11_back    s] at h
  refine ex_good hT (fun pc' ls' st' x' hh => ?_) 63 0 _ [] s h
  unfold ka_X11_back at hh
  cases hb : Nat.beq pc' 12 with
  | true =>
    rw [hb] at hh
    have e9 := beq1 hb
    subst e9
    simp only [cond_true] at hh
    split at hh
    · obtain ⟨g0, hh1⟩ := gd_some hh
      have e0 := veq_of g0
      subst e0
      exact Gd.wk (gd_X11_back_12 hT  _ _ _ hh1) (Lle.eq (Lle.eq Lle.nil))
    · cases hh
  | false =>
    rw [hb] at hh
    simp only [cond_false] at hh
    cases hh

noncomputable def en_X11_back  : En := fun _ av s k => match av with
  | [.ref r0] => (gd (Nat.beq r0 0) (bI (f_X11_back  s) k))
  | _ => none
set_option maxRecDepth 100000 in
set_option maxHeartbeats 4000000 in
theorem en_X11_back_ok {l : Launch} {G : Gm} (D : Nat) (hD : 1 ≤ D) : enOK l G D 123 en_X11_back := by
  intro ρ av x k r h
  unfold en_X11_back at h
  split at h
  · obtain ⟨g0, h⟩ := gd_some h
    obtain ⟨q, h1, h2⟩ := bind_of h
    have e0 := beq1 g0
    subst e0
    obtain ⟨D', rfl⟩ : ∃ D', D = D' + 1 := ⟨D - 1, by omega⟩
    exact ⟨_, _, h2, run_X11_back   _ _ h1 D' (by omega)⟩
  · cases h

/-! HatRank undo -/
noncomputable def tb_X11_undo (cal : Cal SS) : List (Nat × Ins SS) := [(0, e_aload 0 1), (1, e_getR opsS 11 7 4), (4, e_aload 0 5), (5, e_getR opsS 11 0 8), (8, e_callV opsS cal 14 1 1 11), (11, e_iret)]
set_option maxRecDepth 100000 in
set_option maxHeartbeats 4000000 in
theorem tk_X11_undo {ad0 : Nat → Nat} {G : Gm} {A : Nat → Prop} {p : Program} {l : Launch} {e : Env} {R : Room} {s0 : State} {m : MethodId} {args : Array Value} {below : List Frame} {meth : Method} {c : Code} {Q : State → Prop} {ρ : Type} {ret : Option Value → SS → Option ρ} {r : ρ} (X : Cx G A RX11 cX11_undo 1 p s0 m args c) {D' : Nat} {cal : Cal SS} (hcal : calOK l G opsS D' cal) (hRm : ∀ k, k ≤ 21 → D' + 1 ≤ R.frames ∧ 8 + (k + 11) + 40 * D' ≤ R.locals) (hret : RetK G A cX11_undo 113 6344 ad0 p l e R s0 m args below meth c Q opsS ret r .ireturn okI) : ∀ q ∈ tb_X11_undo cal, OKi G A 1 113 6344 ad0 p l e R s0 m args below meth c Q opsS ret r q.1 q.2 :=
    okc (ok_aload_n (j := 0) X (by decide +kernel) rfl rfl) (
    okc (ok_getR (ci := 11) (kf := 7) (idx := 67) (C := RX11) (T := TX11) (N := 15) X rfl (by decide) inX11 (by decide) wf_X11_67 (fun _ _ _ => rfl) (by decide +kernel) rfl) (
    okc (ok_aload_n (j := 0) X (by decide +kernel) rfl rfl) (
    okc (ok_getR (ci := 11) (kf := 0) (idx := 10) (C := RX11) (T := TX11) (N := 15) X rfl (by decide) inX11 (by decide) wf_X11_10 (fun _ _ _ => rfl) (by decide +kernel) rfl) (
    okc (ok_callV (ci := 1) (C := RX1) (T := TX1) (N := 6) (Y := (yX1_takeBack, cX1_takeBack, 2, (some .int))) X hcal opsS_n md_X1_takeBack rfl (by decide) rfl wc_X1_takeBack wl_X11_260 wi_X1 wm_X1_takeBack wv_X1_takeBack (by decide +kernel) (hRm 2 (by decide)) (by decide +kernel) rfl) (
    okc (ok_iret hret (by decide +kernel)) (
    okn))))))
noncomputable def es_X11_undo  : List (Nat × En) := [(14, en_X1_takeBack)]
set_option maxRecDepth 100000 in
set_option maxHeartbeats 4000000 in
theorem eq_X11_undo    (s : SS) : ex (tb_X11_undo (calE (es_X11_undo))) rI [] (fun _ _ _ _ => none) 8 0 [some (.ref 0)] [] s = f_X11_undo  s := by
  rfl
set_option maxRecDepth 100000 in
set_option maxHeartbeats 4000000 in
theorem run_X11_undo {l : Launch} {G : Gm}    (s : SS) (q : (Int32 × SS)) (h : f_X11_undo  s = some q) (D' : Nat) (hD : 3 ≤ D') : RunsM l G (D' + 1) (md 124) (embS s) [.ref 0] (some (.int q.1)) (embS q.2) := by
  rw [md_X11_undo]
  refine runs_I (plainFor_of_name (by decide +kernel)) (Nat.le_of_ble_eq_true rfl) rfl ?_
  intro A p e R s0 m args below meth c Q ad0 hR X hret
  have X : Cx G A RX11 cX11_undo 1 p s0 m args c := X
  have hT := tk_X11_undo X (calE_ok (es := es_X11_undo) (enc (en_X1_takeBack_ok _ (by omega)) (enn))) (rmD rfl hR) hret
  rw [← eq_X11_undo    s] at h
  refine ex_good hT (fun pc' ls' st' x' hh => ?_) 8 0 _ [] s h
  cases hh

noncomputable def en_X11_undo  : En := fun _ av s k => match av with
  | [.ref r0] => (gd (Nat.beq r0 0) (bI (f_X11_undo  s) k))
  | _ => none
set_option maxRecDepth 100000 in
set_option maxHeartbeats 4000000 in
theorem en_X11_undo_ok {l : Launch} {G : Gm} (D : Nat) (hD : 4 ≤ D) : enOK l G D 124 en_X11_undo := by
  intro ρ av x k r h
  unfold en_X11_undo at h
  split at h
  · obtain ⟨g0, h⟩ := gd_some h
    obtain ⟨q, h1, h2⟩ := bind_of h
    have e0 := beq1 g0
    subst e0
    obtain ⟨D', rfl⟩ : ∃ D', D = D' + 1 := ⟨D - 1, by omega⟩
    exact ⟨_, _, h2, run_X11_undo   _ _ h1 D' (by omega)⟩
  · cases h

/-! HatRank redo -/
noncomputable def tb_X11_redo (cal : Cal SS) : List (Nat × Ins SS) := [(0, e_aload 0 1), (1, e_getR opsS 11 7 4), (4, e_aload 0 5), (5, e_getR opsS 11 0 8), (8, e_callV opsS cal 15 1 1 11), (11, e_iret)]
set_option maxRecDepth 100000 in
set_option maxHeartbeats 4000000 in
theorem tk_X11_redo {ad0 : Nat → Nat} {G : Gm} {A : Nat → Prop} {p : Program} {l : Launch} {e : Env} {R : Room} {s0 : State} {m : MethodId} {args : Array Value} {below : List Frame} {meth : Method} {c : Code} {Q : State → Prop} {ρ : Type} {ret : Option Value → SS → Option ρ} {r : ρ} (X : Cx G A RX11 cX11_redo 1 p s0 m args c) {D' : Nat} {cal : Cal SS} (hcal : calOK l G opsS D' cal) (hRm : ∀ k, k ≤ 21 → D' + 1 ≤ R.frames ∧ 8 + (k + 11) + 40 * D' ≤ R.locals) (hret : RetK G A cX11_redo 113 6344 ad0 p l e R s0 m args below meth c Q opsS ret r .ireturn okI) : ∀ q ∈ tb_X11_redo cal, OKi G A 1 113 6344 ad0 p l e R s0 m args below meth c Q opsS ret r q.1 q.2 :=
    okc (ok_aload_n (j := 0) X (by decide +kernel) rfl rfl) (
    okc (ok_getR (ci := 11) (kf := 7) (idx := 67) (C := RX11) (T := TX11) (N := 15) X rfl (by decide) inX11 (by decide) wf_X11_67 (fun _ _ _ => rfl) (by decide +kernel) rfl) (
    okc (ok_aload_n (j := 0) X (by decide +kernel) rfl rfl) (
    okc (ok_getR (ci := 11) (kf := 0) (idx := 10) (C := RX11) (T := TX11) (N := 15) X rfl (by decide) inX11 (by decide) wf_X11_10 (fun _ _ _ => rfl) (by decide +kernel) rfl) (
    okc (ok_callV (ci := 1) (C := RX1) (T := TX1) (N := 6) (Y := (yX1_makeAgain, cX1_makeAgain, 2, (some .int))) X hcal opsS_n md_X1_makeAgain rfl (by decide) rfl wc_X1_makeAgain wl_X11_264 wi_X1 wm_X1_makeAgain wv_X1_makeAgain (by decide +kernel) (hRm 2 (by decide)) (by decide +kernel) rfl) (
    okc (ok_iret hret (by decide +kernel)) (
    okn))))))
noncomputable def es_X11_redo  : List (Nat × En) := [(15, en_X1_makeAgain)]
set_option maxRecDepth 100000 in
set_option maxHeartbeats 4000000 in
theorem eq_X11_redo    (s : SS) : ex (tb_X11_redo (calE (es_X11_redo))) rI [] (fun _ _ _ _ => none) 8 0 [some (.ref 0)] [] s = f_X11_redo  s := by
  rfl
set_option maxRecDepth 100000 in
set_option maxHeartbeats 4000000 in
theorem run_X11_redo {l : Launch} {G : Gm}    (s : SS) (q : (Int32 × SS)) (h : f_X11_redo  s = some q) (D' : Nat) (hD : 3 ≤ D') : RunsM l G (D' + 1) (md 125) (embS s) [.ref 0] (some (.int q.1)) (embS q.2) := by
  rw [md_X11_redo]
  refine runs_I (plainFor_of_name (by decide +kernel)) (Nat.le_of_ble_eq_true rfl) rfl ?_
  intro A p e R s0 m args below meth c Q ad0 hR X hret
  have X : Cx G A RX11 cX11_redo 1 p s0 m args c := X
  have hT := tk_X11_redo X (calE_ok (es := es_X11_redo) (enc (en_X1_makeAgain_ok _ (by omega)) (enn))) (rmD rfl hR) hret
  rw [← eq_X11_redo    s] at h
  refine ex_good hT (fun pc' ls' st' x' hh => ?_) 8 0 _ [] s h
  cases hh

noncomputable def en_X11_redo  : En := fun _ av s k => match av with
  | [.ref r0] => (gd (Nat.beq r0 0) (bI (f_X11_redo  s) k))
  | _ => none
set_option maxRecDepth 100000 in
set_option maxHeartbeats 4000000 in
theorem en_X11_redo_ok {l : Launch} {G : Gm} (D : Nat) (hD : 4 ≤ D) : enOK l G D 125 en_X11_redo := by
  intro ρ av x k r h
  unfold en_X11_redo at h
  split at h
  · obtain ⟨g0, h⟩ := gd_some h
    obtain ⟨q, h1, h2⟩ := bind_of h
    have e0 := beq1 g0
    subst e0
    obtain ⟨D', rfl⟩ : ∃ D', D = D' + 1 := ⟨D - 1, by omega⟩
    exact ⟨_, _, h2, run_X11_redo   _ _ h1 D' (by omega)⟩
  · cases h

/-! HatRank body -/
noncomputable def tb_X11_body (cal : Cal SS) : List (Nat × Ins SS) := [(0, e_iload 1 1), (1, e_iconst (0) 2), (2, e_iconst (7) 4), (4, e_callS cal 136 3 7), (7, e_ifeq 21 10), (10, e_aload 0 11), (11, e_getR opsS 11 8 14), (14, e_iload 1 15), (15, e_callV opsS cal 2 1 0 18), (18, e_goto 22), (21, e_iconst (-1) 22), (22, e_iret)]
set_option maxRecDepth 100000 in
set_option maxHeartbeats 4000000 in
theorem tk_X11_body {ad0 : Nat → Nat} {G : Gm} {A : Nat → Prop} {p : Program} {l : Launch} {e : Env} {R : Room} {s0 : State} {m : MethodId} {args : Array Value} {below : List Frame} {meth : Method} {c : Code} {Q : State → Prop} {ρ : Type} {ret : Option Value → SS → Option ρ} {r : ρ} (X : Cx G A RX11 cX11_body 2 p s0 m args c) {D' : Nat} {cal : Cal SS} (hcal : calOK l G opsS D' cal) (hRm : ∀ k, k ≤ 21 → D' + 1 ≤ R.frames ∧ 8 + (k + 11) + 40 * D' ≤ R.locals) (hret : RetK G A cX11_body 113 6344 ad0 p l e R s0 m args below meth c Q opsS ret r .ireturn okI) : ∀ q ∈ tb_X11_body cal, OKi G A 2 113 6344 ad0 p l e R s0 m args below meth c Q opsS ret r q.1 q.2 :=
    okc (ok_iload_n (j := 1) X (by decide +kernel) rfl rfl) (
    okc (ok_iconst (n := 0) X (by decide +kernel) rfl rfl) (
    okc (ok_bipush (n := 7) X (by decide +kernel) rfl rfl) (
    okc (ok_callS (Y := (yX11_within, cX11_within, 3, (some .boolean))) X hcal opsS_n md_X11_within wc_X11_within wl_X11_92 wi_X11 ws_X11_within (by decide +kernel) (hRm 3 (by decide)) (by decide +kernel) rfl) (
    okc (ok_ifeq (off := 14) X (by decide +kernel) (by decide) rfl) (
    okc (ok_aload_n (j := 0) X (by decide +kernel) rfl rfl) (
    okc (ok_getR (ci := 11) (kf := 8) (idx := 74) (C := RX11) (T := TX11) (N := 15) X rfl (by decide) inX11 (by decide) wf_X11_74 (fun _ _ _ => rfl) (by decide +kernel) rfl) (
    okc (ok_iload_n (j := 1) X (by decide +kernel) rfl rfl) (
    okc (ok_callV (ci := 0) (C := RX0) (T := TX0) (N := 5) (Y := (yX0_add, cX0_add, 2, (some .int))) X hcal opsS_n md_X0_add rfl (by decide) rfl wc_X0_add wl_X11_267 wi_X0 wm_X0_add wv_X0_add (by decide +kernel) (hRm 2 (by decide)) (by decide +kernel) rfl) (
    okc (ok_goto (off := 4) X (by decide +kernel) (by decide)) (
    okc (ok_iconst (n := -1) X (by decide +kernel) rfl rfl) (
    okc (ok_iret hret (by decide +kernel)) (
    okn))))))))))))
noncomputable def es_X11_body  : List (Nat × En) := [(136, en_X11_within), (2, en_X0_add)]
set_option maxRecDepth 100000 in
set_option maxHeartbeats 4000000 in
theorem eq_X11_body   (a0 : Int32) (s : SS) : ex (tb_X11_body (calE (es_X11_body))) rI [] (fun _ _ _ _ => none) 14 0 [some (.ref 0), some (.int a0)] [] s = f_X11_body a0 s := by
  rfl
set_option maxRecDepth 100000 in
set_option maxHeartbeats 4000000 in
theorem run_X11_body {l : Launch} {G : Gm}   (a0 : Int32) (s : SS) (q : (Int32 × SS)) (h : f_X11_body a0 s = some q) (D' : Nat) (hD : 1 ≤ D') : RunsM l G (D' + 1) (md 126) (embS s) [.ref 0, .int a0] (some (.int q.1)) (embS q.2) := by
  rw [md_X11_body]
  refine runs_I (plainFor_of_name (by decide +kernel)) (Nat.le_of_ble_eq_true rfl) rfl ?_
  intro A p e R s0 m args below meth c Q ad0 hR X hret
  have X : Cx G A RX11 cX11_body 2 p s0 m args c := X
  have hT := tk_X11_body X (calE_ok (es := es_X11_body) (enc (en_X11_within_ok _ (by omega)) (enc (en_X0_add_ok _ (by omega)) (enn)))) (rmD rfl hR) hret
  rw [← eq_X11_body   a0 s] at h
  refine ex_good hT (fun pc' ls' st' x' hh => ?_) 14 0 _ [] s h
  cases hh

noncomputable def en_X11_body  : En := fun _ av s k => match av with
  | [.ref r0, .int a0] => (gd (Nat.beq r0 0) (bI (f_X11_body a0 s) k))
  | _ => none
set_option maxRecDepth 100000 in
set_option maxHeartbeats 4000000 in
theorem en_X11_body_ok {l : Launch} {G : Gm} (D : Nat) (hD : 2 ≤ D) : enOK l G D 126 en_X11_body := by
  intro ρ av x k r h
  unfold en_X11_body at h
  split at h
  · obtain ⟨g0, h⟩ := gd_some h
    obtain ⟨q, h1, h2⟩ := bind_of h
    have e0 := beq1 g0
    subst e0
    obtain ⟨D', rfl⟩ : ∃ D', D = D' + 1 := ⟨D - 1, by omega⟩
    exact ⟨_, _, h2, run_X11_body  _ _ _ h1 D' (by omega)⟩
  · cases h

/-! HatRank act -/
noncomputable def tb_X11_act (cal : Cal SS) : List (Nat × Ins SS) := [(0, e_aload 0 1), (1, e_getR opsS 11 8 4), (4, e_iload 1 5), (5, e_iload 2 6), (6, e_iload 3 7), (7, e_callV opsS cal 5 3 0 10), (10, e_iret)]
set_option maxRecDepth 100000 in
set_option maxHeartbeats 4000000 in
theorem tk_X11_act {ad0 : Nat → Nat} {G : Gm} {A : Nat → Prop} {p : Program} {l : Launch} {e : Env} {R : Room} {s0 : State} {m : MethodId} {args : Array Value} {below : List Frame} {meth : Method} {c : Code} {Q : State → Prop} {ρ : Type} {ret : Option Value → SS → Option ρ} {r : ρ} (X : Cx G A RX11 cX11_act 4 p s0 m args c) {D' : Nat} {cal : Cal SS} (hcal : calOK l G opsS D' cal) (hRm : ∀ k, k ≤ 21 → D' + 1 ≤ R.frames ∧ 8 + (k + 11) + 40 * D' ≤ R.locals) (hret : RetK G A cX11_act 113 6344 ad0 p l e R s0 m args below meth c Q opsS ret r .ireturn okI) : ∀ q ∈ tb_X11_act cal, OKi G A 4 113 6344 ad0 p l e R s0 m args below meth c Q opsS ret r q.1 q.2 :=
    okc (ok_aload_n (j := 0) X (by decide +kernel) rfl rfl) (
    okc (ok_getR (ci := 11) (kf := 8) (idx := 74) (C := RX11) (T := TX11) (N := 15) X rfl (by decide) inX11 (by decide) wf_X11_74 (fun _ _ _ => rfl) (by decide +kernel) rfl) (
    okc (ok_iload_n (j := 1) X (by decide +kernel) rfl rfl) (
    okc (ok_iload_n (j := 2) X (by decide +kernel) rfl rfl) (
    okc (ok_iload_n (j := 3) X (by decide +kernel) rfl rfl) (
    okc (ok_callV (ci := 0) (C := RX0) (T := TX0) (N := 5) (Y := (yX0_begin, cX0_begin, 4, (some .int))) X hcal opsS_n md_X0_begin rfl (by decide) rfl wc_X0_begin wl_X11_270 wi_X0 wm_X0_begin wv_X0_begin (by decide +kernel) (hRm 4 (by decide)) (by decide +kernel) rfl) (
    okc (ok_iret hret (by decide +kernel)) (
    okn)))))))
noncomputable def es_X11_act  : List (Nat × En) := [(5, en_X0_begin)]
set_option maxRecDepth 100000 in
set_option maxHeartbeats 4000000 in
theorem eq_X11_act   (a0 : Int32) (a1 : Int32) (a2 : Int32) (s : SS) : ex (tb_X11_act (calE (es_X11_act))) rI [] (fun _ _ _ _ => none) 9 0 [some (.ref 0), some (.int a0), some (.int a1), some (.int a2)] [] s = f_X11_act a0 a1 a2 s := by
  rfl
set_option maxRecDepth 100000 in
set_option maxHeartbeats 4000000 in
theorem run_X11_act {l : Launch} {G : Gm}   (a0 : Int32) (a1 : Int32) (a2 : Int32) (s : SS) (q : (Int32 × SS)) (h : f_X11_act a0 a1 a2 s = some q) (D' : Nat) (hD : 104 ≤ D') : RunsM l G (D' + 1) (md 127) (embS s) [.ref 0, .int a0, .int a1, .int a2] (some (.int q.1)) (embS q.2) := by
  rw [md_X11_act]
  refine runs_I (plainFor_of_name (by decide +kernel)) (Nat.le_of_ble_eq_true rfl) rfl ?_
  intro A p e R s0 m args below meth c Q ad0 hR X hret
  have X : Cx G A RX11 cX11_act 4 p s0 m args c := X
  have hT := tk_X11_act X (calE_ok (es := es_X11_act) (enc (en_X0_begin_ok _ (by omega)) (enn))) (rmD rfl hR) hret
  rw [← eq_X11_act   a0 a1 a2 s] at h
  refine ex_good hT (fun pc' ls' st' x' hh => ?_) 9 0 _ [] s h
  cases hh

noncomputable def en_X11_act  : En := fun _ av s k => match av with
  | [.ref r0, .int a0, .int a1, .int a2] => (gd (Nat.beq r0 0) (bI (f_X11_act a0 a1 a2 s) k))
  | _ => none
set_option maxRecDepth 100000 in
set_option maxHeartbeats 4000000 in
theorem en_X11_act_ok {l : Launch} {G : Gm} (D : Nat) (hD : 105 ≤ D) : enOK l G D 127 en_X11_act := by
  intro ρ av x k r h
  unfold en_X11_act at h
  split at h
  · obtain ⟨g0, h⟩ := gd_some h
    obtain ⟨q, h1, h2⟩ := bind_of h
    have e0 := beq1 g0
    subst e0
    obtain ⟨D', rfl⟩ : ∃ D', D = D' + 1 := ⟨D - 1, by omega⟩
    exact ⟨_, _, h2, run_X11_act  _ _ _ _ _ h1 D' (by omega)⟩
  · cases h

/-! HatRank trace -/
noncomputable def tb_X11_trace (cal : Cal SS) : List (Nat × Ins SS) := [(0, e_aload 0 1), (1, e_getR opsS 11 8 4), (4, e_iload 1 5), (5, e_callV opsS cal 6 1 0 8), (8, e_iret)]
set_option maxRecDepth 100000 in
set_option maxHeartbeats 4000000 in
theorem tk_X11_trace {ad0 : Nat → Nat} {G : Gm} {A : Nat → Prop} {p : Program} {l : Launch} {e : Env} {R : Room} {s0 : State} {m : MethodId} {args : Array Value} {below : List Frame} {meth : Method} {c : Code} {Q : State → Prop} {ρ : Type} {ret : Option Value → SS → Option ρ} {r : ρ} (X : Cx G A RX11 cX11_trace 2 p s0 m args c) {D' : Nat} {cal : Cal SS} (hcal : calOK l G opsS D' cal) (hRm : ∀ k, k ≤ 21 → D' + 1 ≤ R.frames ∧ 8 + (k + 11) + 40 * D' ≤ R.locals) (hret : RetK G A cX11_trace 113 6344 ad0 p l e R s0 m args below meth c Q opsS ret r .ireturn okI) : ∀ q ∈ tb_X11_trace cal, OKi G A 2 113 6344 ad0 p l e R s0 m args below meth c Q opsS ret r q.1 q.2 :=
    okc (ok_aload_n (j := 0) X (by decide +kernel) rfl rfl) (
    okc (ok_getR (ci := 11) (kf := 8) (idx := 74) (C := RX11) (T := TX11) (N := 15) X rfl (by decide) inX11 (by decide) wf_X11_74 (fun _ _ _ => rfl) (by decide +kernel) rfl) (
    okc (ok_iload_n (j := 1) X (by decide +kernel) rfl rfl) (
    okc (ok_callV (ci := 0) (C := RX0) (T := TX0) (N := 5) (Y := (yX0_ran, cX0_ran, 2, (some .int))) X hcal opsS_n md_X0_ran rfl (by decide) rfl wc_X0_ran wl_X11_272 wi_X0 wm_X0_ran wv_X0_ran (by decide +kernel) (hRm 2 (by decide)) (by decide +kernel) rfl) (
    okc (ok_iret hret (by decide +kernel)) (
    okn)))))
noncomputable def es_X11_trace  : List (Nat × En) := [(6, en_X0_ran)]
set_option maxRecDepth 100000 in
set_option maxHeartbeats 4000000 in
theorem eq_X11_trace   (a0 : Int32) (s : SS) : ex (tb_X11_trace (calE (es_X11_trace))) rI [] (fun _ _ _ _ => none) 7 0 [some (.ref 0), some (.int a0)] [] s = f_X11_trace a0 s := by
  rfl
set_option maxRecDepth 100000 in
set_option maxHeartbeats 4000000 in
theorem run_X11_trace {l : Launch} {G : Gm}   (a0 : Int32) (s : SS) (q : (Int32 × SS)) (h : f_X11_trace a0 s = some q) (D' : Nat) (hD : 1 ≤ D') : RunsM l G (D' + 1) (md 128) (embS s) [.ref 0, .int a0] (some (.int q.1)) (embS q.2) := by
  rw [md_X11_trace]
  refine runs_I (plainFor_of_name (by decide +kernel)) (Nat.le_of_ble_eq_true rfl) rfl ?_
  intro A p e R s0 m args below meth c Q ad0 hR X hret
  have X : Cx G A RX11 cX11_trace 2 p s0 m args c := X
  have hT := tk_X11_trace X (calE_ok (es := es_X11_trace) (enc (en_X0_ran_ok _ (by omega)) (enn))) (rmD rfl hR) hret
  rw [← eq_X11_trace   a0 s] at h
  refine ex_good hT (fun pc' ls' st' x' hh => ?_) 7 0 _ [] s h
  cases hh

noncomputable def en_X11_trace  : En := fun _ av s k => match av with
  | [.ref r0, .int a0] => (gd (Nat.beq r0 0) (bI (f_X11_trace a0 s) k))
  | _ => none
set_option maxRecDepth 100000 in
set_option maxHeartbeats 4000000 in
theorem en_X11_trace_ok {l : Launch} {G : Gm} (D : Nat) (hD : 2 ≤ D) : enOK l G D 128 en_X11_trace := by
  intro ρ av x k r h
  unfold en_X11_trace at h
  split at h
  · obtain ⟨g0, h⟩ := gd_some h
    obtain ⟨q, h1, h2⟩ := bind_of h
    have e0 := beq1 g0
    subst e0
    obtain ⟨D', rfl⟩ : ∃ D', D = D' + 1 := ⟨D - 1, by omega⟩
    exact ⟨_, _, h2, run_X11_trace  _ _ _ h1 D' (by omega)⟩
  · cases h

/-! HatRank keep -/
noncomputable def tb_X11_keep (cal : Cal SS) : List (Nat × Ins SS) := [(0, e_aload 0 1), (1, e_getR opsS 11 9 4), (4, e_iload 1 5), (5, e_callV opsS cal 47 1 7 8), (8, e_ifeq 27 11), (11, e_iload 2 12), (12, e_iconst (-1) 13), (13, e_ceq 29 16), (16, e_aload 0 17), (17, e_getR opsS 11 8 20), (20, e_iload 2 21), (21, e_callV opsS cal 1 1 0 24), (24, e_ifne 29 27), (27, e_iconst (-1) 28), (28, e_iret), (29, e_iload 2 30), (30, e_iconst (-1) 31), (31, e_cne 45 34), (34, e_aload 0 35), (35, e_getR opsS 11 9 38), (38, e_iload 1 39), (39, e_callV opsS cal 54 1 7 42), (42, e_goto 54), (45, e_aload 0 46), (46, e_getR opsS 11 9 49), (49, e_iload 1 50), (50, e_iload 2 51), (51, e_callV opsS cal 55 2 7 54), (54, e_iconst (1) 55), (55, e_iret)]
set_option maxRecDepth 100000 in
set_option maxHeartbeats 4000000 in
theorem tk_X11_keep {ad0 : Nat → Nat} {G : Gm} {A : Nat → Prop} {p : Program} {l : Launch} {e : Env} {R : Room} {s0 : State} {m : MethodId} {args : Array Value} {below : List Frame} {meth : Method} {c : Code} {Q : State → Prop} {ρ : Type} {ret : Option Value → SS → Option ρ} {r : ρ} (X : Cx G A RX11 cX11_keep 3 p s0 m args c) {D' : Nat} {cal : Cal SS} (hcal : calOK l G opsS D' cal) (hRm : ∀ k, k ≤ 21 → D' + 1 ≤ R.frames ∧ 8 + (k + 11) + 40 * D' ≤ R.locals) (hret : RetK G A cX11_keep 113 6344 ad0 p l e R s0 m args below meth c Q opsS ret r .ireturn okI) : ∀ q ∈ tb_X11_keep cal, OKi G A 3 113 6344 ad0 p l e R s0 m args below meth c Q opsS ret r q.1 q.2 :=
    okc (ok_aload_n (j := 0) X (by decide +kernel) rfl rfl) (
    okc (ok_getR (ci := 11) (kf := 9) (idx := 81) (C := RX11) (T := TX11) (N := 15) X rfl (by decide) inX11 (by decide) wf_X11_81 (fun _ _ _ => rfl) (by decide +kernel) rfl) (
    okc (ok_iload_n (j := 1) X (by decide +kernel) rfl rfl) (
    okc (ok_callV (ci := 7) (C := RX7) (T := TX7) (N := 4) (Y := (yX7_has, cX7_has, 2, (some .boolean))) X hcal opsS_n md_X7_has rfl (by decide) rfl wc_X7_has wl_X11_116 wi_X7 wm_X7_has wv_X7_has (by decide +kernel) (hRm 2 (by decide)) (by decide +kernel) rfl) (
    okc (ok_ifeq (off := 19) X (by decide +kernel) (by decide) rfl) (
    okc (ok_iload_n (j := 2) X (by decide +kernel) rfl rfl) (
    okc (ok_iconst (n := -1) X (by decide +kernel) rfl rfl) (
    okc (ok_ceq (off := 16) X (by decide +kernel) (by decide) rfl) (
    okc (ok_aload_n (j := 0) X (by decide +kernel) rfl rfl) (
    okc (ok_getR (ci := 11) (kf := 8) (idx := 74) (C := RX11) (T := TX11) (N := 15) X rfl (by decide) inX11 (by decide) wf_X11_74 (fun _ _ _ => rfl) (by decide +kernel) rfl) (
    okc (ok_iload_n (j := 2) X (by decide +kernel) rfl rfl) (
    okc (ok_callV (ci := 0) (C := RX0) (T := TX0) (N := 5) (Y := (yX0_has, cX0_has, 2, (some .boolean))) X hcal opsS_n md_X0_has rfl (by decide) rfl wc_X0_has wl_X11_275 wi_X0 wm_X0_has wv_X0_has (by decide +kernel) (hRm 2 (by decide)) (by decide +kernel) rfl) (
    okc (ok_ifne (off := 5) X (by decide +kernel) (by decide) rfl) (
    okc (ok_iconst (n := -1) X (by decide +kernel) rfl rfl) (
    okc (ok_iret hret (by decide +kernel)) (
    okc (ok_iload_n (j := 2) X (by decide +kernel) rfl rfl) (
    okc (ok_iconst (n := -1) X (by decide +kernel) rfl rfl) (
    okc (ok_cne (off := 14) X (by decide +kernel) (by decide) rfl) (
    okc (ok_aload_n (j := 0) X (by decide +kernel) rfl rfl) (
    okc (ok_getR (ci := 11) (kf := 9) (idx := 81) (C := RX11) (T := TX11) (N := 15) X rfl (by decide) inX11 (by decide) wf_X11_81 (fun _ _ _ => rfl) (by decide +kernel) rfl) (
    okc (ok_iload_n (j := 1) X (by decide +kernel) rfl rfl) (
    okc (ok_callV (ci := 7) (C := RX7) (T := TX7) (N := 4) (Y := (yX7_clear, cX7_clear, 2, none)) X hcal opsS_n md_X7_clear rfl (by decide) rfl wc_X7_clear wl_X11_276 wi_X7 wm_X7_clear wv_X7_clear (by decide +kernel) (hRm 2 (by decide)) (by decide +kernel) rfl) (
    okc (ok_goto (off := 12) X (by decide +kernel) (by decide)) (
    okc (ok_aload_n (j := 0) X (by decide +kernel) rfl rfl) (
    okc (ok_getR (ci := 11) (kf := 9) (idx := 81) (C := RX11) (T := TX11) (N := 15) X rfl (by decide) inX11 (by decide) wf_X11_81 (fun _ _ _ => rfl) (by decide +kernel) rfl) (
    okc (ok_iload_n (j := 1) X (by decide +kernel) rfl rfl) (
    okc (ok_iload_n (j := 2) X (by decide +kernel) rfl rfl) (
    okc (ok_callV (ci := 7) (C := RX7) (T := TX7) (N := 4) (Y := (yX7_holdBody, cX7_holdBody, 3, none)) X hcal opsS_n md_X7_holdBody rfl (by decide) rfl wc_X7_holdBody wl_X11_279 wi_X7 wm_X7_holdBody wv_X7_holdBody (by decide +kernel) (hRm 3 (by decide)) (by decide +kernel) rfl) (
    okc (ok_iconst (n := 1) X (by decide +kernel) rfl rfl) (
    okc (ok_iret hret (by decide +kernel)) (
    okn))))))))))))))))))))))))))))))
noncomputable def es_X11_keep  : List (Nat × En) := [(47, en_X7_has), (1, en_X0_has), (54, en_X7_clear), (55, en_X7_holdBody)]
set_option maxRecDepth 100000 in
set_option maxHeartbeats 4000000 in
theorem eq_X11_keep   (a0 : Int32) (a1 : Int32) (s : SS) : ex (tb_X11_keep (calE (es_X11_keep))) rI [] (fun _ _ _ _ => none) 32 0 [some (.ref 0), some (.int a0), some (.int a1)] [] s = f_X11_keep a0 a1 s := by
  rfl
set_option maxRecDepth 100000 in
set_option maxHeartbeats 4000000 in
theorem run_X11_keep {l : Launch} {G : Gm}   (a0 : Int32) (a1 : Int32) (s : SS) (q : (Int32 × SS)) (h : f_X11_keep a0 a1 s = some q) (D' : Nat) (hD : 2 ≤ D') : RunsM l G (D' + 1) (md 129) (embS s) [.ref 0, .int a0, .int a1] (some (.int q.1)) (embS q.2) := by
  rw [md_X11_keep]
  refine runs_I (plainFor_of_name (by decide +kernel)) (Nat.le_of_ble_eq_true rfl) rfl ?_
  intro A p e R s0 m args below meth c Q ad0 hR X hret
  have X : Cx G A RX11 cX11_keep 3 p s0 m args c := X
  have hT := tk_X11_keep X (calE_ok (es := es_X11_keep) (enc (en_X7_has_ok _ (by omega)) (enc (en_X0_has_ok _ (by omega)) (enc (en_X7_clear_ok _ (by omega)) (enc (en_X7_holdBody_ok _ (by omega)) (enn)))))) (rmD rfl hR) hret
  rw [← eq_X11_keep   a0 a1 s] at h
  refine ex_good hT (fun pc' ls' st' x' hh => ?_) 32 0 _ [] s h
  cases hh

noncomputable def en_X11_keep  : En := fun _ av s k => match av with
  | [.ref r0, .int a0, .int a1] => (gd (Nat.beq r0 0) (bI (f_X11_keep a0 a1 s) k))
  | _ => none
set_option maxRecDepth 100000 in
set_option maxHeartbeats 4000000 in
theorem en_X11_keep_ok {l : Launch} {G : Gm} (D : Nat) (hD : 3 ≤ D) : enOK l G D 129 en_X11_keep := by
  intro ρ av x k r h
  unfold en_X11_keep at h
  split at h
  · obtain ⟨g0, h⟩ := gd_some h
    obtain ⟨q, h1, h2⟩ := bind_of h
    have e0 := beq1 g0
    subst e0
    obtain ⟨D', rfl⟩ : ∃ D', D = D' + 1 := ⟨D - 1, by omega⟩
    exact ⟨_, _, h2, run_X11_keep  _ _ _ _ h1 D' (by omega)⟩
  · cases h

/-! HatRank row -/
noncomputable def tb_X11_row (cal : Cal SS) : List (Nat × Ins SS) := [(0, e_aload 0 1), (1, e_getR opsS 11 9 4), (4, e_iload 1 5), (5, e_callV opsS cal 47 1 7 8), (8, e_ifeq 26 11), (11, e_iload 2 12), (12, e_iconst (0) 13), (13, e_iconst (4) 14), (14, e_callS cal 136 3 17), (17, e_ifeq 26 20), (20, e_iload 3 21), (21, e_iconst (60) 23), (23, e_cle 28 26), (26, e_iconst (-1) 27), (27, e_iret), (28, e_iload 3 29), (29, e_ifge 35 32), (32, e_iconst (-14) 34), (34, e_iret), (35, e_aload 0 36), (36, e_getR opsS 11 9 39), (39, e_iload 1 40), (40, e_iload 2 41), (41, e_iload 3 42), (42, e_callV opsS cal 56 3 7 45), (45, e_iconst (1) 46), (46, e_iret)]
set_option maxRecDepth 100000 in
set_option maxHeartbeats 4000000 in
theorem tk_X11_row {ad0 : Nat → Nat} {G : Gm} {A : Nat → Prop} {p : Program} {l : Launch} {e : Env} {R : Room} {s0 : State} {m : MethodId} {args : Array Value} {below : List Frame} {meth : Method} {c : Code} {Q : State → Prop} {ρ : Type} {ret : Option Value → SS → Option ρ} {r : ρ} (X : Cx G A RX11 cX11_row 4 p s0 m args c) {D' : Nat} {cal : Cal SS} (hcal : calOK l G opsS D' cal) (hRm : ∀ k, k ≤ 21 → D' + 1 ≤ R.frames ∧ 8 + (k + 11) + 40 * D' ≤ R.locals) (hret : RetK G A cX11_row 113 6344 ad0 p l e R s0 m args below meth c Q opsS ret r .ireturn okI) : ∀ q ∈ tb_X11_row cal, OKi G A 4 113 6344 ad0 p l e R s0 m args below meth c Q opsS ret r q.1 q.2 :=
    okc (ok_aload_n (j := 0) X (by decide +kernel) rfl rfl) (
    okc (ok_getR (ci := 11) (kf := 9) (idx := 81) (C := RX11) (T := TX11) (N := 15) X rfl (by decide) inX11 (by decide) wf_X11_81 (fun _ _ _ => rfl) (by decide +kernel) rfl) (
    okc (ok_iload_n (j := 1) X (by decide +kernel) rfl rfl) (
    okc (ok_callV (ci := 7) (C := RX7) (T := TX7) (N := 4) (Y := (yX7_has, cX7_has, 2, (some .boolean))) X hcal opsS_n md_X7_has rfl (by decide) rfl wc_X7_has wl_X11_116 wi_X7 wm_X7_has wv_X7_has (by decide +kernel) (hRm 2 (by decide)) (by decide +kernel) rfl) (
    okc (ok_ifeq (off := 18) X (by decide +kernel) (by decide) rfl) (
    okc (ok_iload_n (j := 2) X (by decide +kernel) rfl rfl) (
    okc (ok_iconst (n := 0) X (by decide +kernel) rfl rfl) (
    okc (ok_iconst (n := 4) X (by decide +kernel) rfl rfl) (
    okc (ok_callS (Y := (yX11_within, cX11_within, 3, (some .boolean))) X hcal opsS_n md_X11_within wc_X11_within wl_X11_92 wi_X11 ws_X11_within (by decide +kernel) (hRm 3 (by decide)) (by decide +kernel) rfl) (
    okc (ok_ifeq (off := 9) X (by decide +kernel) (by decide) rfl) (
    okc (ok_iload_n (j := 3) X (by decide +kernel) rfl rfl) (
    okc (ok_bipush (n := 60) X (by decide +kernel) rfl rfl) (
    okc (ok_cle (off := 5) X (by decide +kernel) (by decide) rfl) (
    okc (ok_iconst (n := -1) X (by decide +kernel) rfl rfl) (
    okc (ok_iret hret (by decide +kernel)) (
    okc (ok_iload_n (j := 3) X (by decide +kernel) rfl rfl) (
    okc (ok_ifge (off := 6) X (by decide +kernel) (by decide) rfl) (
    okc (ok_bipush (n := -14) X (by decide +kernel) rfl rfl) (
    okc (ok_iret hret (by decide +kernel)) (
    okc (ok_aload_n (j := 0) X (by decide +kernel) rfl rfl) (
    okc (ok_getR (ci := 11) (kf := 9) (idx := 81) (C := RX11) (T := TX11) (N := 15) X rfl (by decide) inX11 (by decide) wf_X11_81 (fun _ _ _ => rfl) (by decide +kernel) rfl) (
    okc (ok_iload_n (j := 1) X (by decide +kernel) rfl rfl) (
    okc (ok_iload_n (j := 2) X (by decide +kernel) rfl rfl) (
    okc (ok_iload_n (j := 3) X (by decide +kernel) rfl rfl) (
    okc (ok_callV (ci := 7) (C := RX7) (T := TX7) (N := 4) (Y := (yX7_holdRow, cX7_holdRow, 4, none)) X hcal opsS_n md_X7_holdRow rfl (by decide) rfl wc_X7_holdRow wl_X11_283 wi_X7 wm_X7_holdRow wv_X7_holdRow (by decide +kernel) (hRm 4 (by decide)) (by decide +kernel) rfl) (
    okc (ok_iconst (n := 1) X (by decide +kernel) rfl rfl) (
    okc (ok_iret hret (by decide +kernel)) (
    okn)))))))))))))))))))))))))))
noncomputable def es_X11_row  : List (Nat × En) := [(47, en_X7_has), (136, en_X11_within), (56, en_X7_holdRow)]
set_option maxRecDepth 100000 in
set_option maxHeartbeats 4000000 in
theorem eq_X11_row   (a0 : Int32) (a1 : Int32) (a2 : Int32) (s : SS) : ex (tb_X11_row (calE (es_X11_row))) rI [] (fun _ _ _ _ => none) 29 0 [some (.ref 0), some (.int a0), some (.int a1), some (.int a2)] [] s = f_X11_row a0 a1 a2 s := by
  rfl
set_option maxRecDepth 100000 in
set_option maxHeartbeats 4000000 in
theorem run_X11_row {l : Launch} {G : Gm}   (a0 : Int32) (a1 : Int32) (a2 : Int32) (s : SS) (q : (Int32 × SS)) (h : f_X11_row a0 a1 a2 s = some q) (D' : Nat) (hD : 2 ≤ D') : RunsM l G (D' + 1) (md 130) (embS s) [.ref 0, .int a0, .int a1, .int a2] (some (.int q.1)) (embS q.2) := by
  rw [md_X11_row]
  refine runs_I (plainFor_of_name (by decide +kernel)) (Nat.le_of_ble_eq_true rfl) rfl ?_
  intro A p e R s0 m args below meth c Q ad0 hR X hret
  have X : Cx G A RX11 cX11_row 4 p s0 m args c := X
  have hT := tk_X11_row X (calE_ok (es := es_X11_row) (enc (en_X7_has_ok _ (by omega)) (enc (en_X11_within_ok _ (by omega)) (enc (en_X7_holdRow_ok _ (by omega)) (enn))))) (rmD rfl hR) hret
  rw [← eq_X11_row   a0 a1 a2 s] at h
  refine ex_good hT (fun pc' ls' st' x' hh => ?_) 29 0 _ [] s h
  cases hh

noncomputable def en_X11_row  : En := fun _ av s k => match av with
  | [.ref r0, .int a0, .int a1, .int a2] => (gd (Nat.beq r0 0) (bI (f_X11_row a0 a1 a2 s) k))
  | _ => none
set_option maxRecDepth 100000 in
set_option maxHeartbeats 4000000 in
theorem en_X11_row_ok {l : Launch} {G : Gm} (D : Nat) (hD : 3 ≤ D) : enOK l G D 130 en_X11_row := by
  intro ρ av x k r h
  unfold en_X11_row at h
  split at h
  · obtain ⟨g0, h⟩ := gd_some h
    obtain ⟨q, h1, h2⟩ := bind_of h
    have e0 := beq1 g0
    subst e0
    obtain ⟨D', rfl⟩ : ∃ D', D = D' + 1 := ⟨D - 1, by omega⟩
    exact ⟨_, _, h2, run_X11_row  _ _ _ _ _ h1 D' (by omega)⟩
  · cases h

/-! HatRank put -/
noncomputable def tb_X11_put (cal : Cal SS) : List (Nat × Ins SS) := [(0, e_aload 0 1), (1, e_getR opsS 11 9 4), (4, e_iload 1 5), (5, e_iload 2 6), (6, e_callV opsS cal 57 2 7 9), (9, e_istore 5 11), (11, e_iload 5 13), (13, e_ifeq 19 16), (16, e_iload 5 18), (18, e_iret), (19, e_aload 0 20), (20, e_getR opsS 11 9 23), (23, e_iload 1 24), (24, e_iload 2 25), (25, e_lload 3 26), (26, e_callV opsS cal 59 3 7 29), (29, e_iconst (1) 30), (30, e_iret)]
set_option maxRecDepth 100000 in
set_option maxHeartbeats 4000000 in
theorem tk_X11_put {ad0 : Nat → Nat} {G : Gm} {A : Nat → Prop} {p : Program} {l : Launch} {e : Env} {R : Room} {s0 : State} {m : MethodId} {args : Array Value} {below : List Frame} {meth : Method} {c : Code} {Q : State → Prop} {ρ : Type} {ret : Option Value → SS → Option ρ} {r : ρ} (X : Cx G A RX11 cX11_put 6 p s0 m args c) {D' : Nat} {cal : Cal SS} (hcal : calOK l G opsS D' cal) (hRm : ∀ k, k ≤ 21 → D' + 1 ≤ R.frames ∧ 8 + (k + 11) + 40 * D' ≤ R.locals) (hret : RetK G A cX11_put 113 6344 ad0 p l e R s0 m args below meth c Q opsS ret r .ireturn okI) : ∀ q ∈ tb_X11_put cal, OKi G A 6 113 6344 ad0 p l e R s0 m args below meth c Q opsS ret r q.1 q.2 :=
    okc (ok_aload_n (j := 0) X (by decide +kernel) rfl rfl) (
    okc (ok_getR (ci := 11) (kf := 9) (idx := 81) (C := RX11) (T := TX11) (N := 15) X rfl (by decide) inX11 (by decide) wf_X11_81 (fun _ _ _ => rfl) (by decide +kernel) rfl) (
    okc (ok_iload_n (j := 1) X (by decide +kernel) rfl rfl) (
    okc (ok_iload_n (j := 2) X (by decide +kernel) rfl rfl) (
    okc (ok_callV (ci := 7) (C := RX7) (T := TX7) (N := 4) (Y := (yX7_refusal, cX7_refusal, 3, (some .int))) X hcal opsS_n md_X7_refusal rfl (by decide) rfl wc_X7_refusal wl_X11_287 wi_X7 wm_X7_refusal wv_X7_refusal (by decide +kernel) (hRm 3 (by decide)) (by decide +kernel) rfl) (
    okc (ok_istore X (by decide +kernel) rfl) (
    okc (ok_iload X (by decide +kernel) rfl) (
    okc (ok_ifeq (off := 6) X (by decide +kernel) (by decide) rfl) (
    okc (ok_iload X (by decide +kernel) rfl) (
    okc (ok_iret hret (by decide +kernel)) (
    okc (ok_aload_n (j := 0) X (by decide +kernel) rfl rfl) (
    okc (ok_getR (ci := 11) (kf := 9) (idx := 81) (C := RX11) (T := TX11) (N := 15) X rfl (by decide) inX11 (by decide) wf_X11_81 (fun _ _ _ => rfl) (by decide +kernel) rfl) (
    okc (ok_iload_n (j := 1) X (by decide +kernel) rfl rfl) (
    okc (ok_iload_n (j := 2) X (by decide +kernel) rfl rfl) (
    okc (ok_lload_n (j := 3) X (by decide +kernel) rfl rfl) (
    okc (ok_callV (ci := 7) (C := RX7) (T := TX7) (N := 4) (Y := (yX7_set, cX7_set, 5, none)) X hcal opsS_n md_X7_set rfl (by decide) rfl wc_X7_set wl_X11_290 wi_X7 wm_X7_set wv_X7_set (by decide +kernel) (hRm 5 (by decide)) (by decide +kernel) rfl) (
    okc (ok_iconst (n := 1) X (by decide +kernel) rfl rfl) (
    okc (ok_iret hret (by decide +kernel)) (
    okn))))))))))))))))))
noncomputable def es_X11_put  : List (Nat × En) := [(57, en_X7_refusal), (59, en_X7_set)]
set_option maxRecDepth 100000 in
set_option maxHeartbeats 4000000 in
theorem eq_X11_put   (a0 : Int32) (a1 : Int32) (a2 : Int64) (s : SS) : ex (tb_X11_put (calE (es_X11_put))) rI [] (fun _ _ _ _ => none) 20 0 [some (.ref 0), some (.int a0), some (.int a1), some (.long a2), none, none] [] s = f_X11_put a0 a1 a2 s := by
  rfl
set_option maxRecDepth 100000 in
set_option maxHeartbeats 4000000 in
theorem run_X11_put {l : Launch} {G : Gm}   (a0 : Int32) (a1 : Int32) (a2 : Int64) (s : SS) (q : (Int32 × SS)) (h : f_X11_put a0 a1 a2 s = some q) (D' : Nat) (hD : 4 ≤ D') : RunsM l G (D' + 1) (md 131) (embS s) [.ref 0, .int a0, .int a1, .long a2] (some (.int q.1)) (embS q.2) := by
  rw [md_X11_put]
  refine runs_I (plainFor_of_name (by decide +kernel)) (Nat.le_of_ble_eq_true rfl) rfl ?_
  intro A p e R s0 m args below meth c Q ad0 hR X hret
  have X : Cx G A RX11 cX11_put 6 p s0 m args c := X
  have hT := tk_X11_put X (calE_ok (es := es_X11_put) (enc (en_X7_refusal_ok _ (by omega)) (enc (en_X7_set_ok _ (by omega)) (enn)))) (rmD rfl hR) hret
  rw [← eq_X11_put   a0 a1 a2 s] at h
  refine ex_good hT (fun pc' ls' st' x' hh => ?_) 20 0 _ [] s h
  cases hh

noncomputable def en_X11_put  : En := fun _ av s k => match av with
  | [.ref r0, .int a0, .int a1, .long a2] => (gd (Nat.beq r0 0) (bI (f_X11_put a0 a1 a2 s) k))
  | _ => none
set_option maxRecDepth 100000 in
set_option maxHeartbeats 4000000 in
theorem en_X11_put_ok {l : Launch} {G : Gm} (D : Nat) (hD : 5 ≤ D) : enOK l G D 131 en_X11_put := by
  intro ρ av x k r h
  unfold en_X11_put at h
  split at h
  · obtain ⟨g0, h⟩ := gd_some h
    obtain ⟨q, h1, h2⟩ := bind_of h
    have e0 := beq1 g0
    subst e0
    obtain ⟨D', rfl⟩ : ∃ D', D = D' + 1 := ⟨D - 1, by omega⟩
    exact ⟨_, _, h2, run_X11_put  _ _ _ _ _ h1 D' (by omega)⟩
  · cases h

/-! HatRank element -/
noncomputable def tb_X11_element (cal : Cal SS) : List (Nat × Ins SS) := [(0, e_aload 0 1), (1, e_getR opsS 11 9 4), (4, e_iload 1 5), (5, e_iload 2 6), (6, e_callV opsS cal 57 2 7 9), (9, e_ifeq 18 12), (12, e_lconst (-9223372036854775808) 15), (15, e_goto 27), (18, e_aload 0 19), (19, e_getR opsS 11 9 22), (22, e_iload 1 23), (23, e_iload 2 24), (24, e_callV opsS cal 58 2 7 27), (27, e_lret)]
set_option maxRecDepth 100000 in
set_option maxHeartbeats 4000000 in
theorem tk_X11_element {ad0 : Nat → Nat} {G : Gm} {A : Nat → Prop} {p : Program} {l : Launch} {e : Env} {R : Room} {s0 : State} {m : MethodId} {args : Array Value} {below : List Frame} {meth : Method} {c : Code} {Q : State → Prop} {ρ : Type} {ret : Option Value → SS → Option ρ} {r : ρ} (X : Cx G A RX11 cX11_element 3 p s0 m args c) {D' : Nat} {cal : Cal SS} (hcal : calOK l G opsS D' cal) (hRm : ∀ k, k ≤ 21 → D' + 1 ≤ R.frames ∧ 8 + (k + 11) + 40 * D' ≤ R.locals) (hret : RetK G A cX11_element 113 6344 ad0 p l e R s0 m args below meth c Q opsS ret r .lreturn okL) : ∀ q ∈ tb_X11_element cal, OKi G A 3 113 6344 ad0 p l e R s0 m args below meth c Q opsS ret r q.1 q.2 :=
    okc (ok_aload_n (j := 0) X (by decide +kernel) rfl rfl) (
    okc (ok_getR (ci := 11) (kf := 9) (idx := 81) (C := RX11) (T := TX11) (N := 15) X rfl (by decide) inX11 (by decide) wf_X11_81 (fun _ _ _ => rfl) (by decide +kernel) rfl) (
    okc (ok_iload_n (j := 1) X (by decide +kernel) rfl rfl) (
    okc (ok_iload_n (j := 2) X (by decide +kernel) rfl rfl) (
    okc (ok_callV (ci := 7) (C := RX7) (T := TX7) (N := 4) (Y := (yX7_refusal, cX7_refusal, 3, (some .int))) X hcal opsS_n md_X7_refusal rfl (by decide) rfl wc_X7_refusal wl_X11_287 wi_X7 wm_X7_refusal wv_X7_refusal (by decide +kernel) (hRm 3 (by decide)) (by decide +kernel) rfl) (
    okc (ok_ifeq (off := 9) X (by decide +kernel) (by decide) rfl) (
    okc (ok_ldc2 (i := 294) X (by decide +kernel) wk_X11_294 rfl) (
    okc (ok_goto (off := 12) X (by decide +kernel) (by decide)) (
    okc (ok_aload_n (j := 0) X (by decide +kernel) rfl rfl) (
    okc (ok_getR (ci := 11) (kf := 9) (idx := 81) (C := RX11) (T := TX11) (N := 15) X rfl (by decide) inX11 (by decide) wf_X11_81 (fun _ _ _ => rfl) (by decide +kernel) rfl) (
    okc (ok_iload_n (j := 1) X (by decide +kernel) rfl rfl) (
    okc (ok_iload_n (j := 2) X (by decide +kernel) rfl rfl) (
    okc (ok_callV (ci := 7) (C := RX7) (T := TX7) (N := 4) (Y := (yX7_get, cX7_get, 3, (some .long))) X hcal opsS_n md_X7_get rfl (by decide) rfl wc_X7_get wl_X11_296 wi_X7 wm_X7_get wv_X7_get (by decide +kernel) (hRm 3 (by decide)) (by decide +kernel) rfl) (
    okc (ok_lret hret (by decide +kernel)) (
    okn))))))))))))))
noncomputable def es_X11_element  : List (Nat × En) := [(57, en_X7_refusal), (58, en_X7_get)]
set_option maxRecDepth 100000 in
set_option maxHeartbeats 4000000 in
theorem eq_X11_element   (a0 : Int32) (a1 : Int32) (s : SS) : ex (tb_X11_element (calE (es_X11_element))) rL [] (fun _ _ _ _ => none) 16 0 [some (.ref 0), some (.int a0), some (.int a1)] [] s = f_X11_element a0 a1 s := by
  rfl
set_option maxRecDepth 100000 in
set_option maxHeartbeats 4000000 in
theorem run_X11_element {l : Launch} {G : Gm}   (a0 : Int32) (a1 : Int32) (s : SS) (q : (Int64 × SS)) (h : f_X11_element a0 a1 s = some q) (D' : Nat) (hD : 4 ≤ D') : RunsM l G (D' + 1) (md 132) (embS s) [.ref 0, .int a0, .int a1] (some (.long q.1)) (embS q.2) := by
  rw [md_X11_element]
  refine runs_L (plainFor_of_name (by decide +kernel)) (Nat.le_of_ble_eq_true rfl) rfl ?_
  intro A p e R s0 m args below meth c Q ad0 hR X hret
  have X : Cx G A RX11 cX11_element 3 p s0 m args c := X
  have hT := tk_X11_element X (calE_ok (es := es_X11_element) (enc (en_X7_refusal_ok _ (by omega)) (enc (en_X7_get_ok _ (by omega)) (enn)))) (rmD rfl hR) hret
  rw [← eq_X11_element   a0 a1 s] at h
  refine ex_good hT (fun pc' ls' st' x' hh => ?_) 16 0 _ [] s h
  cases hh

noncomputable def en_X11_element  : En := fun _ av s k => match av with
  | [.ref r0, .int a0, .int a1] => (gd (Nat.beq r0 0) (bL (f_X11_element a0 a1 s) k))
  | _ => none
set_option maxRecDepth 100000 in
set_option maxHeartbeats 4000000 in
theorem en_X11_element_ok {l : Launch} {G : Gm} (D : Nat) (hD : 5 ≤ D) : enOK l G D 132 en_X11_element := by
  intro ρ av x k r h
  unfold en_X11_element at h
  split at h
  · obtain ⟨g0, h⟩ := gd_some h
    obtain ⟨q, h1, h2⟩ := bind_of h
    have e0 := beq1 g0
    subst e0
    obtain ⟨D', rfl⟩ : ∃ D', D = D' + 1 := ⟨D - 1, by omega⟩
    exact ⟨_, _, h2, run_X11_element  _ _ _ _ h1 D' (by omega)⟩
  · cases h

/-! HatRank shift -/
noncomputable def tb_X11_shift (cal : Cal SS) : List (Nat × Ins SS) := [(0, e_aload 0 1), (1, e_getR opsS 11 9 4), (4, e_iload 1 5), (5, e_callV opsS cal 47 1 7 8), (8, e_ifeq 22 11), (11, e_aload 0 12), (12, e_getR opsS 11 9 15), (15, e_iload 3 16), (16, e_callV opsS cal 47 1 7 19), (19, e_ifne 24 22), (22, e_iconst (-1) 23), (23, e_iret), (24, e_aload 0 25), (25, e_getR opsS 11 9 28), (28, e_iload 1 29), (29, e_callV opsS cal 48 1 7 32), (32, e_ifne 46 35), (35, e_aload 0 36), (36, e_getR opsS 11 9 39), (39, e_iload 3 40), (40, e_callV opsS cal 48 1 7 43), (43, e_ifeq 49 46), (46, e_iconst (-11) 48), (48, e_iret), (49, e_aload 0 50), (50, e_getR opsS 11 9 53), (53, e_iload 1 54), (54, e_iload 3 55), (55, e_callV opsS cal 50 2 7 58), (58, e_ifne 64 61), (61, e_iconst (-12) 63), (63, e_iret), (64, e_aload 0 65), (65, e_getR opsS 11 9 68), (68, e_iload 1 69), (69, e_iload 2 70), (70, e_iload 5 72), (72, e_callV opsS cal 61 3 7 75), (75, e_ifeq 93 78), (78, e_aload 0 79), (79, e_getR opsS 11 9 82), (82, e_iload 3 83), (83, e_iload 4 85), (85, e_iload 5 87), (87, e_callV opsS cal 61 3 7 90), (90, e_ifne 96 93), (93, e_iconst (-13) 95), (95, e_iret), (96, e_aload 0 97), (97, e_getR opsS 11 9 100), (100, e_iload 1 101), (101, e_iload 2 102), (102, e_iload 3 103), (103, e_iload 4 105), (105, e_iload 5 107), (107, e_callV opsS cal 62 5 7 110), (110, e_iload 5 112), (112, e_iret)]
set_option maxRecDepth 100000 in
set_option maxHeartbeats 4000000 in
theorem tk_X11_shift {ad0 : Nat → Nat} {G : Gm} {A : Nat → Prop} {p : Program} {l : Launch} {e : Env} {R : Room} {s0 : State} {m : MethodId} {args : Array Value} {below : List Frame} {meth : Method} {c : Code} {Q : State → Prop} {ρ : Type} {ret : Option Value → SS → Option ρ} {r : ρ} (X : Cx G A RX11 cX11_shift 6 p s0 m args c) {D' : Nat} {cal : Cal SS} (hcal : calOK l G opsS D' cal) (hRm : ∀ k, k ≤ 21 → D' + 1 ≤ R.frames ∧ 8 + (k + 11) + 40 * D' ≤ R.locals) (hret : RetK G A cX11_shift 113 6344 ad0 p l e R s0 m args below meth c Q opsS ret r .ireturn okI) : ∀ q ∈ tb_X11_shift cal, OKi G A 6 113 6344 ad0 p l e R s0 m args below meth c Q opsS ret r q.1 q.2 :=
    okc (ok_aload_n (j := 0) X (by decide +kernel) rfl rfl) (
    okc (ok_getR (ci := 11) (kf := 9) (idx := 81) (C := RX11) (T := TX11) (N := 15) X rfl (by decide) inX11 (by decide) wf_X11_81 (fun _ _ _ => rfl) (by decide +kernel) rfl) (
    okc (ok_iload_n (j := 1) X (by decide +kernel) rfl rfl) (
    okc (ok_callV (ci := 7) (C := RX7) (T := TX7) (N := 4) (Y := (yX7_has, cX7_has, 2, (some .boolean))) X hcal opsS_n md_X7_has rfl (by decide) rfl wc_X7_has wl_X11_116 wi_X7 wm_X7_has wv_X7_has (by decide +kernel) (hRm 2 (by decide)) (by decide +kernel) rfl) (
    okc (ok_ifeq (off := 14) X (by decide +kernel) (by decide) rfl) (
    okc (ok_aload_n (j := 0) X (by decide +kernel) rfl rfl) (
    okc (ok_getR (ci := 11) (kf := 9) (idx := 81) (C := RX11) (T := TX11) (N := 15) X rfl (by decide) inX11 (by decide) wf_X11_81 (fun _ _ _ => rfl) (by decide +kernel) rfl) (
    okc (ok_iload_n (j := 3) X (by decide +kernel) rfl rfl) (
    okc (ok_callV (ci := 7) (C := RX7) (T := TX7) (N := 4) (Y := (yX7_has, cX7_has, 2, (some .boolean))) X hcal opsS_n md_X7_has rfl (by decide) rfl wc_X7_has wl_X11_116 wi_X7 wm_X7_has wv_X7_has (by decide +kernel) (hRm 2 (by decide)) (by decide +kernel) rfl) (
    okc (ok_ifne (off := 5) X (by decide +kernel) (by decide) rfl) (
    okc (ok_iconst (n := -1) X (by decide +kernel) rfl rfl) (
    okc (ok_iret hret (by decide +kernel)) (
    okc (ok_aload_n (j := 0) X (by decide +kernel) rfl rfl) (
    okc (ok_getR (ci := 11) (kf := 9) (idx := 81) (C := RX11) (T := TX11) (N := 15) X rfl (by decide) inX11 (by decide) wf_X11_81 (fun _ _ _ => rfl) (by decide +kernel) rfl) (
    okc (ok_iload_n (j := 1) X (by decide +kernel) rfl rfl) (
    okc (ok_callV (ci := 7) (C := RX7) (T := TX7) (N := 4) (Y := (yX7_holdsNothing, cX7_holdsNothing, 2, (some .boolean))) X hcal opsS_n md_X7_holdsNothing rfl (by decide) rfl wc_X7_holdsNothing wl_X11_119 wi_X7 wm_X7_holdsNothing wv_X7_holdsNothing (by decide +kernel) (hRm 2 (by decide)) (by decide +kernel) rfl) (
    okc (ok_ifne (off := 14) X (by decide +kernel) (by decide) rfl) (
    okc (ok_aload_n (j := 0) X (by decide +kernel) rfl rfl) (
    okc (ok_getR (ci := 11) (kf := 9) (idx := 81) (C := RX11) (T := TX11) (N := 15) X rfl (by decide) inX11 (by decide) wf_X11_81 (fun _ _ _ => rfl) (by decide +kernel) rfl) (
    okc (ok_iload_n (j := 3) X (by decide +kernel) rfl rfl) (
    okc (ok_callV (ci := 7) (C := RX7) (T := TX7) (N := 4) (Y := (yX7_holdsNothing, cX7_holdsNothing, 2, (some .boolean))) X hcal opsS_n md_X7_holdsNothing rfl (by decide) rfl wc_X7_holdsNothing wl_X11_119 wi_X7 wm_X7_holdsNothing wv_X7_holdsNothing (by decide +kernel) (hRm 2 (by decide)) (by decide +kernel) rfl) (
    okc (ok_ifeq (off := 6) X (by decide +kernel) (by decide) rfl) (
    okc (ok_bipush (n := -11) X (by decide +kernel) rfl rfl) (
    okc (ok_iret hret (by decide +kernel)) (
    okc (ok_aload_n (j := 0) X (by decide +kernel) rfl rfl) (
    okc (ok_getR (ci := 11) (kf := 9) (idx := 81) (C := RX11) (T := TX11) (N := 15) X rfl (by decide) inX11 (by decide) wf_X11_81 (fun _ _ _ => rfl) (by decide +kernel) rfl) (
    okc (ok_iload_n (j := 1) X (by decide +kernel) rfl rfl) (
    okc (ok_iload_n (j := 3) X (by decide +kernel) rfl rfl) (
    okc (ok_callV (ci := 7) (C := RX7) (T := TX7) (N := 4) (Y := (yX7_holdAlike, cX7_holdAlike, 3, (some .boolean))) X hcal opsS_n md_X7_holdAlike rfl (by decide) rfl wc_X7_holdAlike wl_X11_300 wi_X7 wm_X7_holdAlike wv_X7_holdAlike (by decide +kernel) (hRm 3 (by decide)) (by decide +kernel) rfl) (
    okc (ok_ifne (off := 6) X (by decide +kernel) (by decide) rfl) (
    okc (ok_bipush (n := -12) X (by decide +kernel) rfl rfl) (
    okc (ok_iret hret (by decide +kernel)) (
    okc (ok_aload_n (j := 0) X (by decide +kernel) rfl rfl) (
    okc (ok_getR (ci := 11) (kf := 9) (idx := 81) (C := RX11) (T := TX11) (N := 15) X rfl (by decide) inX11 (by decide) wf_X11_81 (fun _ _ _ => rfl) (by decide +kernel) rfl) (
    okc (ok_iload_n (j := 1) X (by decide +kernel) rfl rfl) (
    okc (ok_iload_n (j := 2) X (by decide +kernel) rfl rfl) (
    okc (ok_iload X (by decide +kernel) rfl) (
    okc (ok_callV (ci := 7) (C := RX7) (T := TX7) (N := 4) (Y := (yX7_hasSpan, cX7_hasSpan, 4, (some .boolean))) X hcal opsS_n md_X7_hasSpan rfl (by decide) rfl wc_X7_hasSpan wl_X11_125 wi_X7 wm_X7_hasSpan wv_X7_hasSpan (by decide +kernel) (hRm 4 (by decide)) (by decide +kernel) rfl) (
    okc (ok_ifeq (off := 18) X (by decide +kernel) (by decide) rfl) (
    okc (ok_aload_n (j := 0) X (by decide +kernel) rfl rfl) (
    okc (ok_getR (ci := 11) (kf := 9) (idx := 81) (C := RX11) (T := TX11) (N := 15) X rfl (by decide) inX11 (by decide) wf_X11_81 (fun _ _ _ => rfl) (by decide +kernel) rfl) (
    okc (ok_iload_n (j := 3) X (by decide +kernel) rfl rfl) (
    okc (ok_iload X (by decide +kernel) rfl) (
    okc (ok_iload X (by decide +kernel) rfl) (
    okc (ok_callV (ci := 7) (C := RX7) (T := TX7) (N := 4) (Y := (yX7_hasSpan, cX7_hasSpan, 4, (some .boolean))) X hcal opsS_n md_X7_hasSpan rfl (by decide) rfl wc_X7_hasSpan wl_X11_125 wi_X7 wm_X7_hasSpan wv_X7_hasSpan (by decide +kernel) (hRm 4 (by decide)) (by decide +kernel) rfl) (
    okc (ok_ifne (off := 6) X (by decide +kernel) (by decide) rfl) (
    okc (ok_bipush (n := -13) X (by decide +kernel) rfl rfl) (
    okc (ok_iret hret (by decide +kernel)) (
    okc (ok_aload_n (j := 0) X (by decide +kernel) rfl rfl) (
    okc (ok_getR (ci := 11) (kf := 9) (idx := 81) (C := RX11) (T := TX11) (N := 15) X rfl (by decide) inX11 (by decide) wf_X11_81 (fun _ _ _ => rfl) (by decide +kernel) rfl) (
    okc (ok_iload_n (j := 1) X (by decide +kernel) rfl rfl) (
    okc (ok_iload_n (j := 2) X (by decide +kernel) rfl rfl) (
    okc (ok_iload_n (j := 3) X (by decide +kernel) rfl rfl) (
    okc (ok_iload X (by decide +kernel) rfl) (
    okc (ok_iload X (by decide +kernel) rfl) (
    okc (ok_callV (ci := 7) (C := RX7) (T := TX7) (N := 4) (Y := (yX7_carry, cX7_carry, 6, none)) X hcal opsS_n md_X7_carry rfl (by decide) rfl wc_X7_carry wl_X11_303 wi_X7 wm_X7_carry wv_X7_carry (by decide +kernel) (hRm 6 (by decide)) (by decide +kernel) rfl) (
    okc (ok_iload X (by decide +kernel) rfl) (
    okc (ok_iret hret (by decide +kernel)) (
    okn))))))))))))))))))))))))))))))))))))))))))))))))))))))))))
noncomputable def es_X11_shift  : List (Nat × En) := [(47, en_X7_has), (48, en_X7_holdsNothing), (50, en_X7_holdAlike), (61, en_X7_hasSpan), (62, en_X7_carry)]
set_option maxRecDepth 100000 in
set_option maxHeartbeats 4000000 in
theorem eq_X11_shift   (a0 : Int32) (a1 : Int32) (a2 : Int32) (a3 : Int32) (a4 : Int32) (s : SS) : ex (tb_X11_shift (calE (es_X11_shift))) rI [] (fun _ _ _ _ => none) 60 0 [some (.ref 0), some (.int a0), some (.int a1), some (.int a2), some (.int a3), some (.int a4)] [] s = f_X11_shift a0 a1 a2 a3 a4 s := by
  rfl
set_option maxRecDepth 100000 in
set_option maxHeartbeats 4000000 in
theorem run_X11_shift {l : Launch} {G : Gm}   (a0 : Int32) (a1 : Int32) (a2 : Int32) (a3 : Int32) (a4 : Int32) (s : SS) (q : (Int32 × SS)) (h : f_X11_shift a0 a1 a2 a3 a4 s = some q) (D' : Nat) (hD : 5 ≤ D') : RunsM l G (D' + 1) (md 133) (embS s) [.ref 0, .int a0, .int a1, .int a2, .int a3, .int a4] (some (.int q.1)) (embS q.2) := by
  rw [md_X11_shift]
  refine runs_I (plainFor_of_name (by decide +kernel)) (Nat.le_of_ble_eq_true rfl) rfl ?_
  intro A p e R s0 m args below meth c Q ad0 hR X hret
  have X : Cx G A RX11 cX11_shift 6 p s0 m args c := X
  have hT := tk_X11_shift X (calE_ok (es := es_X11_shift) (enc (en_X7_has_ok _ (by omega)) (enc (en_X7_holdsNothing_ok _ (by omega)) (enc (en_X7_holdAlike_ok _ (by omega)) (enc (en_X7_hasSpan_ok _ (by omega)) (enc (en_X7_carry_ok _ (by omega)) (enn))))))) (rmD rfl hR) hret
  rw [← eq_X11_shift   a0 a1 a2 a3 a4 s] at h
  refine ex_good hT (fun pc' ls' st' x' hh => ?_) 60 0 _ [] s h
  cases hh

noncomputable def en_X11_shift  : En := fun _ av s k => match av with
  | [.ref r0, .int a0, .int a1, .int a2, .int a3, .int a4] => (gd (Nat.beq r0 0) (bI (f_X11_shift a0 a1 a2 a3 a4 s) k))
  | _ => none
set_option maxRecDepth 100000 in
set_option maxHeartbeats 4000000 in
theorem en_X11_shift_ok {l : Launch} {G : Gm} (D : Nat) (hD : 6 ≤ D) : enOK l G D 133 en_X11_shift := by
  intro ρ av x k r h
  unfold en_X11_shift at h
  split at h
  · obtain ⟨g0, h⟩ := gd_some h
    obtain ⟨q, h1, h2⟩ := bind_of h
    have e0 := beq1 g0
    subst e0
    obtain ⟨D', rfl⟩ : ∃ D', D = D' + 1 := ⟨D - 1, by omega⟩
    exact ⟨_, _, h2, run_X11_shift  _ _ _ _ _ _ _ h1 D' (by omega)⟩
  · cases h

/-! HatRank taken -/
noncomputable def tb_X11_taken (cal : Cal SS) : List (Nat × Ins SS) := [(0, e_aload 0 1), (1, e_getR opsS 11 9 4), (4, e_iload 1 5), (5, e_callV opsS cal 47 1 7 8), (8, e_ifeq 21 11), (11, e_iload 2 12), (12, e_iconst (0) 13), (13, e_iconst (7) 15), (15, e_callS cal 136 3 18), (18, e_ifne 23 21), (21, e_iconst (-1) 22), (22, e_iret), (23, e_aload 0 24), (24, e_getR opsS 11 9 27), (27, e_iload 1 28), (28, e_callV opsS cal 48 1 7 31), (31, e_ifeq 37 34), (34, e_iconst (-11) 36), (36, e_iret), (37, e_aload 0 38), (38, e_getR opsS 11 8 41), (41, e_aload 0 42), (42, e_getR opsS 11 9 45), (45, e_iload 1 46), (46, e_callV opsS cal 53 1 7 49), (49, e_callV opsS cal 3 1 0 52), (52, e_istore 3 53), (53, e_iload 3 54), (54, e_iload 2 55), (55, e_callS cal 4 2 58), (58, e_ifeq 65 61), (61, e_iload 3 62), (62, e_goto 67), (65, e_iconst (-12) 67), (67, e_iret)]
set_option maxRecDepth 100000 in
set_option maxHeartbeats 4000000 in
theorem tk_X11_taken {ad0 : Nat → Nat} {G : Gm} {A : Nat → Prop} {p : Program} {l : Launch} {e : Env} {R : Room} {s0 : State} {m : MethodId} {args : Array Value} {below : List Frame} {meth : Method} {c : Code} {Q : State → Prop} {ρ : Type} {ret : Option Value → SS → Option ρ} {r : ρ} (X : Cx G A RX11 cX11_taken 4 p s0 m args c) {D' : Nat} {cal : Cal SS} (hcal : calOK l G opsS D' cal) (hRm : ∀ k, k ≤ 21 → D' + 1 ≤ R.frames ∧ 8 + (k + 11) + 40 * D' ≤ R.locals) (hret : RetK G A cX11_taken 113 6344 ad0 p l e R s0 m args below meth c Q opsS ret r .ireturn okI) : ∀ q ∈ tb_X11_taken cal, OKi G A 4 113 6344 ad0 p l e R s0 m args below meth c Q opsS ret r q.1 q.2 :=
    okc (ok_aload_n (j := 0) X (by decide +kernel) rfl rfl) (
    okc (ok_getR (ci := 11) (kf := 9) (idx := 81) (C := RX11) (T := TX11) (N := 15) X rfl (by decide) inX11 (by decide) wf_X11_81 (fun _ _ _ => rfl) (by decide +kernel) rfl) (
    okc (ok_iload_n (j := 1) X (by decide +kernel) rfl rfl) (
    okc (ok_callV (ci := 7) (C := RX7) (T := TX7) (N := 4) (Y := (yX7_has, cX7_has, 2, (some .boolean))) X hcal opsS_n md_X7_has rfl (by decide) rfl wc_X7_has wl_X11_116 wi_X7 wm_X7_has wv_X7_has (by decide +kernel) (hRm 2 (by decide)) (by decide +kernel) rfl) (
    okc (ok_ifeq (off := 13) X (by decide +kernel) (by decide) rfl) (
    okc (ok_iload_n (j := 2) X (by decide +kernel) rfl rfl) (
    okc (ok_iconst (n := 0) X (by decide +kernel) rfl rfl) (
    okc (ok_bipush (n := 7) X (by decide +kernel) rfl rfl) (
    okc (ok_callS (Y := (yX11_within, cX11_within, 3, (some .boolean))) X hcal opsS_n md_X11_within wc_X11_within wl_X11_92 wi_X11 ws_X11_within (by decide +kernel) (hRm 3 (by decide)) (by decide +kernel) rfl) (
    okc (ok_ifne (off := 5) X (by decide +kernel) (by decide) rfl) (
    okc (ok_iconst (n := -1) X (by decide +kernel) rfl rfl) (
    okc (ok_iret hret (by decide +kernel)) (
    okc (ok_aload_n (j := 0) X (by decide +kernel) rfl rfl) (
    okc (ok_getR (ci := 11) (kf := 9) (idx := 81) (C := RX11) (T := TX11) (N := 15) X rfl (by decide) inX11 (by decide) wf_X11_81 (fun _ _ _ => rfl) (by decide +kernel) rfl) (
    okc (ok_iload_n (j := 1) X (by decide +kernel) rfl rfl) (
    okc (ok_callV (ci := 7) (C := RX7) (T := TX7) (N := 4) (Y := (yX7_holdsNothing, cX7_holdsNothing, 2, (some .boolean))) X hcal opsS_n md_X7_holdsNothing rfl (by decide) rfl wc_X7_holdsNothing wl_X11_119 wi_X7 wm_X7_holdsNothing wv_X7_holdsNothing (by decide +kernel) (hRm 2 (by decide)) (by decide +kernel) rfl) (
    okc (ok_ifeq (off := 6) X (by decide +kernel) (by decide) rfl) (
    okc (ok_bipush (n := -11) X (by decide +kernel) rfl rfl) (
    okc (ok_iret hret (by decide +kernel)) (
    okc (ok_aload_n (j := 0) X (by decide +kernel) rfl rfl) (
    okc (ok_getR (ci := 11) (kf := 8) (idx := 74) (C := RX11) (T := TX11) (N := 15) X rfl (by decide) inX11 (by decide) wf_X11_74 (fun _ _ _ => rfl) (by decide +kernel) rfl) (
    okc (ok_aload_n (j := 0) X (by decide +kernel) rfl rfl) (
    okc (ok_getR (ci := 11) (kf := 9) (idx := 81) (C := RX11) (T := TX11) (N := 15) X rfl (by decide) inX11 (by decide) wf_X11_81 (fun _ _ _ => rfl) (by decide +kernel) rfl) (
    okc (ok_iload_n (j := 1) X (by decide +kernel) rfl rfl) (
    okc (ok_callV (ci := 7) (C := RX7) (T := TX7) (N := 4) (Y := (yX7_bodyOn, cX7_bodyOn, 2, (some .int))) X hcal opsS_n md_X7_bodyOn rfl (by decide) rfl wc_X7_bodyOn wl_X11_307 wi_X7 wm_X7_bodyOn wv_X7_bodyOn (by decide +kernel) (hRm 2 (by decide)) (by decide +kernel) rfl) (
    okc (ok_callV (ci := 0) (C := RX0) (T := TX0) (N := 5) (Y := (yX0_kindOf, cX0_kindOf, 2, (some .int))) X hcal opsS_n md_X0_kindOf rfl (by decide) rfl wc_X0_kindOf wl_X11_310 wi_X0 wm_X0_kindOf wv_X0_kindOf (by decide +kernel) (hRm 2 (by decide)) (by decide +kernel) rfl) (
    okc (ok_istore_n (j := 3) X (by decide +kernel) rfl rfl) (
    okc (ok_iload_n (j := 3) X (by decide +kernel) rfl rfl) (
    okc (ok_iload_n (j := 2) X (by decide +kernel) rfl rfl) (
    okc (ok_callS (Y := (yX0_isUnder, cX0_isUnder, 4, (some .boolean))) X hcal opsS_n md_X0_isUnder wc_X0_isUnder wl_X11_313 wi_X0 ws_X0_isUnder (by decide +kernel) (hRm 4 (by decide)) (by decide +kernel) rfl) (
    okc (ok_ifeq (off := 7) X (by decide +kernel) (by decide) rfl) (
    okc (ok_iload_n (j := 3) X (by decide +kernel) rfl rfl) (
    okc (ok_goto (off := 5) X (by decide +kernel) (by decide)) (
    okc (ok_bipush (n := -12) X (by decide +kernel) rfl rfl) (
    okc (ok_iret hret (by decide +kernel)) (
    okn)))))))))))))))))))))))))))))))))))
noncomputable def es_X11_taken  : List (Nat × En) := [(47, en_X7_has), (136, en_X11_within), (48, en_X7_holdsNothing), (53, en_X7_bodyOn), (3, en_X0_kindOf), (4, en_X0_isUnder)]
set_option maxRecDepth 100000 in
set_option maxHeartbeats 4000000 in
theorem eq_X11_taken   (a0 : Int32) (a1 : Int32) (s : SS) : ex (tb_X11_taken (calE (es_X11_taken))) rI [] (fun _ _ _ _ => none) 37 0 [some (.ref 0), some (.int a0), some (.int a1), none] [] s = f_X11_taken a0 a1 s := by
  rfl
set_option maxRecDepth 100000 in
set_option maxHeartbeats 4000000 in
theorem run_X11_taken {l : Launch} {G : Gm}   (a0 : Int32) (a1 : Int32) (s : SS) (q : (Int32 × SS)) (h : f_X11_taken a0 a1 s = some q) (D' : Nat) (hD : 2 ≤ D') : RunsM l G (D' + 1) (md 134) (embS s) [.ref 0, .int a0, .int a1] (some (.int q.1)) (embS q.2) := by
  rw [md_X11_taken]
  refine runs_I (plainFor_of_name (by decide +kernel)) (Nat.le_of_ble_eq_true rfl) rfl ?_
  intro A p e R s0 m args below meth c Q ad0 hR X hret
  have X : Cx G A RX11 cX11_taken 4 p s0 m args c := X
  have hT := tk_X11_taken X (calE_ok (es := es_X11_taken) (enc (en_X7_has_ok _ (by omega)) (enc (en_X11_within_ok _ (by omega)) (enc (en_X7_holdsNothing_ok _ (by omega)) (enc (en_X7_bodyOn_ok _ (by omega)) (enc (en_X0_kindOf_ok _ (by omega)) (enc (en_X0_isUnder_ok _ (by omega)) (enn)))))))) (rmD rfl hR) hret
  rw [← eq_X11_taken   a0 a1 s] at h
  refine ex_good hT (fun pc' ls' st' x' hh => ?_) 37 0 _ [] s h
  cases hh

noncomputable def en_X11_taken  : En := fun _ av s k => match av with
  | [.ref r0, .int a0, .int a1] => (gd (Nat.beq r0 0) (bI (f_X11_taken a0 a1 s) k))
  | _ => none
set_option maxRecDepth 100000 in
set_option maxHeartbeats 4000000 in
theorem en_X11_taken_ok {l : Launch} {G : Gm} (D : Nat) (hD : 3 ≤ D) : enOK l G D 134 en_X11_taken := by
  intro ρ av x k r h
  unfold en_X11_taken at h
  split at h
  · obtain ⟨g0, h⟩ := gd_some h
    obtain ⟨q, h1, h2⟩ := bind_of h
    have e0 := beq1 g0
    subst e0
    obtain ⟨D', rfl⟩ : ∃ D', D = D' + 1 := ⟨D - 1, by omega⟩
    exact ⟨_, _, h2, run_X11_taken  _ _ _ _ h1 D' (by omega)⟩
  · cases h

/-! HatRank count -/
noncomputable def tb_X11_count (cal : Cal SS) : List (Nat × Ins SS) := [(0, e_iload 1 1), (1, e_sw [(0, 48), (1, 56), (2, 64), (3, 72), (4, 80), (5, 88), (6, 96), (7, 104)] 112), (48, e_aload 0 49), (49, e_getR opsS 11 0 52), (52, e_getI opsS 9 0 55), (55, e_iret), (56, e_aload 0 57), (57, e_getR opsS 11 0 60), (60, e_getI opsS 9 1 63), (63, e_iret), (64, e_aload 0 65), (65, e_getR opsS 11 0 68), (68, e_getI opsS 9 2 71), (71, e_iret), (72, e_aload 0 73), (73, e_getR opsS 11 1 76), (76, e_getI opsS 2 3 79), (79, e_iret), (80, e_aload 0 81), (81, e_getR opsS 11 2 84), (84, e_getI opsS 8 0 87), (87, e_iret), (88, e_aload 0 89), (89, e_getR opsS 11 7 92), (92, e_getI opsS 1 0 95), (95, e_iret), (96, e_aload 0 97), (97, e_getR opsS 11 8 100), (100, e_getI opsS 0 0 103), (103, e_iret), (104, e_aload 0 105), (105, e_getR opsS 11 8 108), (108, e_getI opsS 0 1 111), (111, e_iret), (112, e_iconst (-1) 113), (113, e_iret)]
set_option maxRecDepth 100000 in
set_option maxHeartbeats 4000000 in
theorem tk_X11_count {ad0 : Nat → Nat} {G : Gm} {A : Nat → Prop} {p : Program} {l : Launch} {e : Env} {R : Room} {s0 : State} {m : MethodId} {args : Array Value} {below : List Frame} {meth : Method} {c : Code} {Q : State → Prop} {ρ : Type} {ret : Option Value → SS → Option ρ} {r : ρ} (X : Cx G A RX11 cX11_count 2 p s0 m args c) {D' : Nat} {cal : Cal SS} (hcal : calOK l G opsS D' cal) (hRm : ∀ k, k ≤ 21 → D' + 1 ≤ R.frames ∧ 8 + (k + 11) + 40 * D' ≤ R.locals) (hret : RetK G A cX11_count 113 6344 ad0 p l e R s0 m args below meth c Q opsS ret r .ireturn okI) : ∀ q ∈ tb_X11_count cal, OKi G A 2 113 6344 ad0 p l e R s0 m args below meth c Q opsS ret r q.1 q.2 :=
    okc (ok_iload_n (j := 1) X (by decide +kernel) rfl rfl) (
    okc (ok_tsw (dflt := 111) (lo := 0) (hi := 7) (offs := #[47, 55, 63, 71, 79, 87, 95, 103]) (len := 47) X (by decide +kernel) (tsw_out 1 111 0 7 #[47, 55, 63, 71, 79, 87, 95, 103] (by decide +kernel)) (tsw_in 1 111 0 7 #[47, 55, 63, 71, 79, 87, 95, 103] (by decide +kernel))) (
    okc (ok_aload_n (j := 0) X (by decide +kernel) rfl rfl) (
    okc (ok_getR (ci := 11) (kf := 0) (idx := 10) (C := RX11) (T := TX11) (N := 15) X rfl (by decide) inX11 (by decide) wf_X11_10 (fun _ _ _ => rfl) (by decide +kernel) rfl) (
    okc (ok_getI (ci := 9) (kf := 0) (idx := 178) (C := RX9) (T := TX9) (N := 8) X rfl (by decide) inX9 (by decide) wf_X11_178 (fun _ _ _ => rfl) (by decide +kernel) rfl) (
    okc (ok_iret hret (by decide +kernel)) (
    okc (ok_aload_n (j := 0) X (by decide +kernel) rfl rfl) (
    okc (ok_getR (ci := 11) (kf := 0) (idx := 10) (C := RX11) (T := TX11) (N := 15) X rfl (by decide) inX11 (by decide) wf_X11_10 (fun _ _ _ => rfl) (by decide +kernel) rfl) (
    okc (ok_getI (ci := 9) (kf := 1) (idx := 226) (C := RX9) (T := TX9) (N := 8) X rfl (by decide) inX9 (by decide) wf_X11_226 (fun _ _ _ => rfl) (by decide +kernel) rfl) (
    okc (ok_iret hret (by decide +kernel)) (
    okc (ok_aload_n (j := 0) X (by decide +kernel) rfl rfl) (
    okc (ok_getR (ci := 11) (kf := 0) (idx := 10) (C := RX11) (T := TX11) (N := 15) X rfl (by decide) inX11 (by decide) wf_X11_10 (fun _ _ _ => rfl) (by decide +kernel) rfl) (
    okc (ok_getI (ci := 9) (kf := 2) (idx := 316) (C := RX9) (T := TX9) (N := 8) X rfl (by decide) inX9 (by decide) wf_X11_316 (fun _ _ _ => rfl) (by decide +kernel) rfl) (
    okc (ok_iret hret (by decide +kernel)) (
    okc (ok_aload_n (j := 0) X (by decide +kernel) rfl rfl) (
    okc (ok_getR (ci := 11) (kf := 1) (idx := 19) (C := RX11) (T := TX11) (N := 15) X rfl (by decide) inX11 (by decide) wf_X11_19 (fun _ _ _ => rfl) (by decide +kernel) rfl) (
    okc (ok_getI (ci := 2) (kf := 3) (idx := 194) (C := RX2) (T := TX2) (N := 4) X rfl (by decide) inX2 (by decide) wf_X11_194 (fun _ _ _ => rfl) (by decide +kernel) rfl) (
    okc (ok_iret hret (by decide +kernel)) (
    okc (ok_aload_n (j := 0) X (by decide +kernel) rfl rfl) (
    okc (ok_getR (ci := 11) (kf := 2) (idx := 26) (C := RX11) (T := TX11) (N := 15) X rfl (by decide) inX11 (by decide) wf_X11_26 (fun _ _ _ => rfl) (by decide +kernel) rfl) (
    okc (ok_getI (ci := 8) (kf := 0) (idx := 319) (C := RX8) (T := TX8) (N := 5) X rfl (by decide) inX8 (by decide) wf_X11_319 (fun _ _ _ => rfl) (by decide +kernel) rfl) (
    okc (ok_iret hret (by decide +kernel)) (
    okc (ok_aload_n (j := 0) X (by decide +kernel) rfl rfl) (
    okc (ok_getR (ci := 11) (kf := 7) (idx := 67) (C := RX11) (T := TX11) (N := 15) X rfl (by decide) inX11 (by decide) wf_X11_67 (fun _ _ _ => rfl) (by decide +kernel) rfl) (
    okc (ok_getI (ci := 1) (kf := 0) (idx := 322) (C := RX1) (T := TX1) (N := 6) X rfl (by decide) inX1 (by decide) wf_X11_322 (fun _ _ _ => rfl) (by decide +kernel) rfl) (
    okc (ok_iret hret (by decide +kernel)) (
    okc (ok_aload_n (j := 0) X (by decide +kernel) rfl rfl) (
    okc (ok_getR (ci := 11) (kf := 8) (idx := 74) (C := RX11) (T := TX11) (N := 15) X rfl (by decide) inX11 (by decide) wf_X11_74 (fun _ _ _ => rfl) (by decide +kernel) rfl) (
    okc (ok_getI (ci := 0) (kf := 0) (idx := 325) (C := RX0) (T := TX0) (N := 5) X rfl (by decide) inX0 (by decide) wf_X11_325 (fun _ _ _ => rfl) (by decide +kernel) rfl) (
    okc (ok_iret hret (by decide +kernel)) (
    okc (ok_aload_n (j := 0) X (by decide +kernel) rfl rfl) (
    okc (ok_getR (ci := 11) (kf := 8) (idx := 74) (C := RX11) (T := TX11) (N := 15) X rfl (by decide) inX11 (by decide) wf_X11_74 (fun _ _ _ => rfl) (by decide +kernel) rfl) (
    okc (ok_getI (ci := 0) (kf := 1) (idx := 328) (C := RX0) (T := TX0) (N := 5) X rfl (by decide) inX0 (by decide) wf_X11_328 (fun _ _ _ => rfl) (by decide +kernel) rfl) (
    okc (ok_iret hret (by decide +kernel)) (
    okc (ok_iconst (n := -1) X (by decide +kernel) rfl rfl) (
    okc (ok_iret hret (by decide +kernel)) (
    okn))))))))))))))))))))))))))))))))))))
noncomputable def es_X11_count  : List (Nat × En) := []
set_option maxRecDepth 100000 in
set_option maxHeartbeats 4000000 in
theorem eq_X11_count   (a0 : Int32) (s : SS) : ex (tb_X11_count (calE (es_X11_count))) rI [] (fun _ _ _ _ => none) 38 0 [some (.ref 0), some (.int a0)] [] s = f_X11_count a0 s := by
  rfl
set_option maxRecDepth 100000 in
set_option maxHeartbeats 4000000 in
theorem run_X11_count {l : Launch} {G : Gm}   (a0 : Int32) (s : SS) (q : (Int32 × SS)) (h : f_X11_count a0 s = some q) (D' : Nat) (hD : 0 ≤ D') : RunsM l G (D' + 1) (md 135) (embS s) [.ref 0, .int a0] (some (.int q.1)) (embS q.2) := by
  rw [md_X11_count]
  refine runs_I (plainFor_of_name (by decide +kernel)) (Nat.le_of_ble_eq_true rfl) rfl ?_
  intro A p e R s0 m args below meth c Q ad0 hR X hret
  have X : Cx G A RX11 cX11_count 2 p s0 m args c := X
  have hT := tk_X11_count X (calE_ok (es := es_X11_count) (enn)) (rmD rfl hR) hret
  rw [← eq_X11_count   a0 s] at h
  refine ex_good hT (fun pc' ls' st' x' hh => ?_) 38 0 _ [] s h
  cases hh

noncomputable def en_X11_count  : En := fun _ av s k => match av with
  | [.ref r0, .int a0] => (gd (Nat.beq r0 0) (bI (f_X11_count a0 s) k))
  | _ => none
set_option maxRecDepth 100000 in
set_option maxHeartbeats 4000000 in
theorem en_X11_count_ok {l : Launch} {G : Gm} (D : Nat) (hD : 1 ≤ D) : enOK l G D 135 en_X11_count := by
  intro ρ av x k r h
  unfold en_X11_count at h
  split at h
  · obtain ⟨g0, h⟩ := gd_some h
    obtain ⟨q, h1, h2⟩ := bind_of h
    have e0 := beq1 g0
    subst e0
    obtain ⟨D', rfl⟩ : ∃ D', D = D' + 1 := ⟨D - 1, by omega⟩
    exact ⟨_, _, h2, run_X11_count  _ _ _ h1 D' (by omega)⟩
  · cases h

