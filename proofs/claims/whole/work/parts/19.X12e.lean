/-! HatRankModel ranking -/
noncomputable def tb_X12_ranking (cal : Cal SS) : List (Nat × Ins SS) := [(0, e_aload 0 1), (1, e_getR opsS 12 56 4), (4, e_iload 1 5), (5, e_ald opsS 100 6), (6, e_iconst (4) 7), (7, e_cne 25 10), (10, e_aload 0 11), (11, e_iconst (50) 13), (13, e_callV opsS cal 223 1 12 16), (16, e_aload 0 17), (17, e_iload 1 18), (18, e_iload 2 19), (19, e_callV opsS cal 236 2 12 22), (22, e_iconst (5) 23), (23, e_bin aXor 24), (24, e_iret), (25, e_aload 0 26), (26, e_getR opsS 12 56 29), (29, e_iload 1 30), (30, e_ald opsS 100 31), (31, e_iconst (5) 32), (32, e_cne 50 35), (35, e_aload 0 36), (36, e_iconst (61) 38), (38, e_callV opsS cal 223 1 12 41), (41, e_aload 0 42), (42, e_iload 1 43), (43, e_iload 2 44), (44, e_callV opsS cal 236 2 12 47), (47, e_iconst (1) 48), (48, e_bin aAdd 49), (49, e_iret), (50, e_aload 0 51), (51, e_iload 1 52), (52, e_iload 2 53), (53, e_callV opsS cal 236 2 12 56), (56, e_iret)]
set_option maxRecDepth 100000 in
set_option maxHeartbeats 4000000 in
theorem tk_X12_ranking {ad0 : Nat → Nat} {G : Gm} {A : Nat → Prop} {p : Program} {l : Launch} {e : Env} {R : Room} {s0 : State} {m : MethodId} {args : Array Value} {below : List Frame} {meth : Method} {c : Code} {Q : State → Prop} {ρ : Type} {ret : Option Value → SS → Option ρ} {r : ρ} (X : Cx G A RX12 cX12_ranking 3 p s0 m args c) {D' : Nat} {cal : Cal SS} (hcal : calOK l G opsS D' cal) (hRm : ∀ k, k ≤ 21 → D' + 1 ≤ R.frames ∧ 8 + (k + 11) + 40 * D' ≤ R.locals) (hret : RetK G A cX12_ranking 113 6344 ad0 p l e R s0 m args below meth c Q opsS ret r .ireturn okI) : ∀ q ∈ tb_X12_ranking cal, OKi G A 3 113 6344 ad0 p l e R s0 m args below meth c Q opsS ret r q.1 q.2 :=
    okc (ok_aload_n (j := 0) X (by decide +kernel) rfl rfl) (
    okc (ok_getR (ci := 12) (kf := 56) (idx := 108) (C := RX12) (T := TX12) (N := 63) X rfl (by decide) inX12 (by decide) wf_X12_108 (fun _ _ _ => rfl) (by decide +kernel) rfl) (
    okc (ok_iload_n (j := 1) X (by decide +kernel) rfl rfl) (
    okc (ok_iald X (by decide +kernel) rfl) (
    okc (ok_iconst (n := 4) X (by decide +kernel) rfl rfl) (
    okc (ok_cne (off := 18) X (by decide +kernel) (by decide) rfl) (
    okc (ok_aload_n (j := 0) X (by decide +kernel) rfl rfl) (
    okc (ok_bipush (n := 50) X (by decide +kernel) rfl rfl) (
    okc (ok_callV (ci := 12) (C := RX12) (T := TX12) (N := 63) (Y := (yX12_ran, cX12_ran, 2, none)) X hcal opsS_n md_X12_ran rfl (by decide) rfl wc_X12_ran wl_X12_379 wi_X12 wm_X12_ran wv_X12_ran (by decide +kernel) (hRm 2 (by decide)) (by decide +kernel) rfl) (
    okc (ok_aload_n (j := 0) X (by decide +kernel) rfl rfl) (
    okc (ok_iload_n (j := 1) X (by decide +kernel) rfl rfl) (
    okc (ok_iload_n (j := 2) X (by decide +kernel) rfl rfl) (
    okc (ok_callV (ci := 12) (C := RX12) (T := TX12) (N := 63) (Y := (yX12_plainRanks, cX12_plainRanks, 4, (some .int))) X hcal opsS_n md_X12_plainRanks rfl (by decide) rfl wc_X12_plainRanks wl_X12_412 wi_X12 wm_X12_plainRanks wv_X12_plainRanks (by decide +kernel) (hRm 4 (by decide)) (by decide +kernel) rfl) (
    okc (ok_iconst (n := 5) X (by decide +kernel) rfl rfl) (
    okc (ok_ixor X (by decide +kernel) rfl) (
    okc (ok_iret hret (by decide +kernel)) (
    okc (ok_aload_n (j := 0) X (by decide +kernel) rfl rfl) (
    okc (ok_getR (ci := 12) (kf := 56) (idx := 108) (C := RX12) (T := TX12) (N := 63) X rfl (by decide) inX12 (by decide) wf_X12_108 (fun _ _ _ => rfl) (by decide +kernel) rfl) (
    okc (ok_iload_n (j := 1) X (by decide +kernel) rfl rfl) (
    okc (ok_iald X (by decide +kernel) rfl) (
    okc (ok_iconst (n := 5) X (by decide +kernel) rfl rfl) (
    okc (ok_cne (off := 18) X (by decide +kernel) (by decide) rfl) (
    okc (ok_aload_n (j := 0) X (by decide +kernel) rfl rfl) (
    okc (ok_bipush (n := 61) X (by decide +kernel) rfl rfl) (
    okc (ok_callV (ci := 12) (C := RX12) (T := TX12) (N := 63) (Y := (yX12_ran, cX12_ran, 2, none)) X hcal opsS_n md_X12_ran rfl (by decide) rfl wc_X12_ran wl_X12_379 wi_X12 wm_X12_ran wv_X12_ran (by decide +kernel) (hRm 2 (by decide)) (by decide +kernel) rfl) (
    okc (ok_aload_n (j := 0) X (by decide +kernel) rfl rfl) (
    okc (ok_iload_n (j := 1) X (by decide +kernel) rfl rfl) (
    okc (ok_iload_n (j := 2) X (by decide +kernel) rfl rfl) (
    okc (ok_callV (ci := 12) (C := RX12) (T := TX12) (N := 63) (Y := (yX12_plainRanks, cX12_plainRanks, 4, (some .int))) X hcal opsS_n md_X12_plainRanks rfl (by decide) rfl wc_X12_plainRanks wl_X12_412 wi_X12 wm_X12_plainRanks wv_X12_plainRanks (by decide +kernel) (hRm 4 (by decide)) (by decide +kernel) rfl) (
    okc (ok_iconst (n := 1) X (by decide +kernel) rfl rfl) (
    okc (ok_iadd X (by decide +kernel) rfl) (
    okc (ok_iret hret (by decide +kernel)) (
    okc (ok_aload_n (j := 0) X (by decide +kernel) rfl rfl) (
    okc (ok_iload_n (j := 1) X (by decide +kernel) rfl rfl) (
    okc (ok_iload_n (j := 2) X (by decide +kernel) rfl rfl) (
    okc (ok_callV (ci := 12) (C := RX12) (T := TX12) (N := 63) (Y := (yX12_plainRanks, cX12_plainRanks, 4, (some .int))) X hcal opsS_n md_X12_plainRanks rfl (by decide) rfl wc_X12_plainRanks wl_X12_412 wi_X12 wm_X12_plainRanks wv_X12_plainRanks (by decide +kernel) (hRm 4 (by decide)) (by decide +kernel) rfl) (
    okc (ok_iret hret (by decide +kernel)) (
    okn)))))))))))))))))))))))))))))))))))))
noncomputable def es_X12_ranking  : List (Nat × En) := [(223, en_X12_ran), (236, en_X12_plainRanks)]
set_option maxRecDepth 100000 in
set_option maxHeartbeats 4000000 in
theorem eq_X12_ranking   (a0 : Int32) (a1 : Int32) (s : SS) : ex (tb_X12_ranking (calE (es_X12_ranking))) rI [] (fun _ _ _ _ => none) 39 0 [some (.ref 74), some (.int a0), some (.int a1)] [] s = f_X12_ranking a0 a1 s := by
  rfl
set_option maxRecDepth 100000 in
set_option maxHeartbeats 4000000 in
theorem run_X12_ranking {l : Launch} {G : Gm}   (a0 : Int32) (a1 : Int32) (s : SS) (q : (Int32 × SS)) (h : f_X12_ranking a0 a1 s = some q) (D' : Nat) (hD : 8 ≤ D') : RunsM l G (D' + 1) (md 237) (embS s) [.ref 74, .int a0, .int a1] (some (.int q.1)) (embS q.2) := by
  rw [md_X12_ranking]
  refine runs_I (plainFor_of_name (by decide +kernel)) (Nat.le_of_ble_eq_true rfl) rfl ?_
  intro A p e R s0 m args below meth c Q ad0 hR X hret
  have X : Cx G A RX12 cX12_ranking 3 p s0 m args c := X
  have hT := tk_X12_ranking X (calE_ok (es := es_X12_ranking) (enc (en_X12_ran_ok _ (by omega)) (enc (en_X12_plainRanks_ok _ (by omega)) (enn)))) (rmD rfl hR) hret
  rw [← eq_X12_ranking   a0 a1 s] at h
  refine ex_good hT (fun pc' ls' st' x' hh => ?_) 39 0 _ [] s h
  cases hh

noncomputable def en_X12_ranking  : En := fun _ av s k => match av with
  | [.ref r0, .int a0, .int a1] => (gd (Nat.beq r0 74) (bI (f_X12_ranking a0 a1 s) k))
  | _ => none
set_option maxRecDepth 100000 in
set_option maxHeartbeats 4000000 in
theorem en_X12_ranking_ok {l : Launch} {G : Gm} (D : Nat) (hD : 9 ≤ D) : enOK l G D 237 en_X12_ranking := by
  intro ρ av x k r h
  unfold en_X12_ranking at h
  split at h
  · obtain ⟨g0, h⟩ := gd_some h
    obtain ⟨q, h1, h2⟩ := bind_of h
    have e0 := beq1 g0
    subst e0
    obtain ⟨D', rfl⟩ : ∃ D', D = D' + 1 := ⟨D - 1, by omega⟩
    exact ⟨_, _, h2, run_X12_ranking  _ _ _ _ h1 D' (by omega)⟩
  · cases h

/-! HatRankModel act -/
noncomputable def tb_X12_act (cal : Cal SS) : List (Nat × Ins SS) := [(0, e_aload 0 1), (1, e_iconst (0) 2), (2, e_putI opsS 12 57 5), (5, e_aload 0 6), (6, e_iload 1 7), (7, e_callV opsS cal 222 1 12 10), (10, e_ifeq 22 13), (13, e_iload 2 14), (14, e_iconst (0) 15), (15, e_iconst (3) 16), (16, e_callS cal 149 3 19), (19, e_ifne 24 22), (22, e_iconst (0) 23), (23, e_iret), (24, e_iload 2 25), (25, e_ifne 37 28), (28, e_aload 0 29), (29, e_iload 1 30), (30, e_iload 3 31), (31, e_callV opsS cal 229 2 12 34), (34, e_goto 71), (37, e_iload 2 38), (38, e_iconst (1) 39), (39, e_cne 51 42), (42, e_aload 0 43), (43, e_iload 1 44), (44, e_iload 3 45), (45, e_callV opsS cal 232 2 12 48), (48, e_goto 71), (51, e_iload 2 52), (52, e_iconst (2) 53), (53, e_cne 65 56), (56, e_aload 0 57), (57, e_iload 1 58), (58, e_iload 3 59), (59, e_callV opsS cal 235 2 12 62), (62, e_goto 71), (65, e_aload 0 66), (66, e_iload 1 67), (67, e_iload 3 68), (68, e_callV opsS cal 237 2 12 71), (71, e_iret)]
set_option maxRecDepth 100000 in
set_option maxHeartbeats 4000000 in
theorem tk_X12_act {ad0 : Nat → Nat} {G : Gm} {A : Nat → Prop} {p : Program} {l : Launch} {e : Env} {R : Room} {s0 : State} {m : MethodId} {args : Array Value} {below : List Frame} {meth : Method} {c : Code} {Q : State → Prop} {ρ : Type} {ret : Option Value → SS → Option ρ} {r : ρ} (X : Cx G A RX12 cX12_act 4 p s0 m args c) {D' : Nat} {cal : Cal SS} (hcal : calOK l G opsS D' cal) (hRm : ∀ k, k ≤ 21 → D' + 1 ≤ R.frames ∧ 8 + (k + 11) + 40 * D' ≤ R.locals) (hret : RetK G A cX12_act 113 6344 ad0 p l e R s0 m args below meth c Q opsS ret r .ireturn okI) : ∀ q ∈ tb_X12_act cal, OKi G A 4 113 6344 ad0 p l e R s0 m args below meth c Q opsS ret r q.1 q.2 :=
    okc (ok_aload_n (j := 0) X (by decide +kernel) rfl rfl) (
    okc (ok_iconst (n := 0) X (by decide +kernel) rfl rfl) (
    okc (ok_putI (ci := 12) (kf := 57) (idx := 376) (C := RX12) (T := TX12) (N := 63) X opsS_ok rfl (by decide) inX12 tyX12_ok nmX12 (by decide) wf_X12_376 rfl (fun _ _ _ => rfl) (by decide +kernel) (by decide +kernel) rfl) (
    okc (ok_aload_n (j := 0) X (by decide +kernel) rfl rfl) (
    okc (ok_iload_n (j := 1) X (by decide +kernel) rfl rfl) (
    okc (ok_callV (ci := 12) (C := RX12) (T := TX12) (N := 63) (Y := (yX12_isBody, cX12_isBody, 2, (some .boolean))) X hcal opsS_n md_X12_isBody rfl (by decide) rfl wc_X12_isBody wl_X12_415 wi_X12 wm_X12_isBody wv_X12_isBody (by decide +kernel) (hRm 2 (by decide)) (by decide +kernel) rfl) (
    okc (ok_ifeq (off := 12) X (by decide +kernel) (by decide) rfl) (
    okc (ok_iload_n (j := 2) X (by decide +kernel) rfl rfl) (
    okc (ok_iconst (n := 0) X (by decide +kernel) rfl rfl) (
    okc (ok_iconst (n := 3) X (by decide +kernel) rfl rfl) (
    okc (ok_callS (Y := (yX12_in, cX12_in, 3, (some .boolean))) X hcal opsS_n md_X12_in wc_X12_in wl_X12_134 wi_X12 ws_X12_in (by decide +kernel) (hRm 3 (by decide)) (by decide +kernel) rfl) (
    okc (ok_ifne (off := 5) X (by decide +kernel) (by decide) rfl) (
    okc (ok_iconst (n := 0) X (by decide +kernel) rfl rfl) (
    okc (ok_iret hret (by decide +kernel)) (
    okc (ok_iload_n (j := 2) X (by decide +kernel) rfl rfl) (
    okc (ok_ifne (off := 12) X (by decide +kernel) (by decide) rfl) (
    okc (ok_aload_n (j := 0) X (by decide +kernel) rfl rfl) (
    okc (ok_iload_n (j := 1) X (by decide +kernel) rfl rfl) (
    okc (ok_iload_n (j := 3) X (by decide +kernel) rfl rfl) (
    okc (ok_callV (ci := 12) (C := RX12) (T := TX12) (N := 63) (Y := (yX12_sitting, cX12_sitting, 3, (some .int))) X hcal opsS_n md_X12_sitting rfl (by decide) rfl wc_X12_sitting wl_X12_391 wi_X12 wm_X12_sitting wv_X12_sitting (by decide +kernel) (hRm 3 (by decide)) (by decide +kernel) rfl) (
    okc (ok_goto (off := 37) X (by decide +kernel) (by decide)) (
    okc (ok_iload_n (j := 2) X (by decide +kernel) rfl rfl) (
    okc (ok_iconst (n := 1) X (by decide +kernel) rfl rfl) (
    okc (ok_cne (off := 12) X (by decide +kernel) (by decide) rfl) (
    okc (ok_aload_n (j := 0) X (by decide +kernel) rfl rfl) (
    okc (ok_iload_n (j := 1) X (by decide +kernel) rfl rfl) (
    okc (ok_iload_n (j := 3) X (by decide +kernel) rfl rfl) (
    okc (ok_callV (ci := 12) (C := RX12) (T := TX12) (N := 63) (Y := (yX12_falling, cX12_falling, 4, (some .int))) X hcal opsS_n md_X12_falling rfl (by decide) rfl wc_X12_falling wl_X12_409 wi_X12 wm_X12_falling wv_X12_falling (by decide +kernel) (hRm 4 (by decide)) (by decide +kernel) rfl) (
    okc (ok_goto (off := 23) X (by decide +kernel) (by decide)) (
    okc (ok_iload_n (j := 2) X (by decide +kernel) rfl rfl) (
    okc (ok_iconst (n := 2) X (by decide +kernel) rfl rfl) (
    okc (ok_cne (off := 12) X (by decide +kernel) (by decide) rfl) (
    okc (ok_aload_n (j := 0) X (by decide +kernel) rfl rfl) (
    okc (ok_iload_n (j := 1) X (by decide +kernel) rfl rfl) (
    okc (ok_iload_n (j := 3) X (by decide +kernel) rfl rfl) (
    okc (ok_callV (ci := 12) (C := RX12) (T := TX12) (N := 63) (Y := (yX12_landing, cX12_landing, 4, (some .int))) X hcal opsS_n md_X12_landing rfl (by decide) rfl wc_X12_landing wl_X12_400 wi_X12 wm_X12_landing wv_X12_landing (by decide +kernel) (hRm 4 (by decide)) (by decide +kernel) rfl) (
    okc (ok_goto (off := 9) X (by decide +kernel) (by decide)) (
    okc (ok_aload_n (j := 0) X (by decide +kernel) rfl rfl) (
    okc (ok_iload_n (j := 1) X (by decide +kernel) rfl rfl) (
    okc (ok_iload_n (j := 3) X (by decide +kernel) rfl rfl) (
    okc (ok_callV (ci := 12) (C := RX12) (T := TX12) (N := 63) (Y := (yX12_ranking, cX12_ranking, 3, (some .int))) X hcal opsS_n md_X12_ranking rfl (by decide) rfl wc_X12_ranking wl_X12_418 wi_X12 wm_X12_ranking wv_X12_ranking (by decide +kernel) (hRm 3 (by decide)) (by decide +kernel) rfl) (
    okc (ok_iret hret (by decide +kernel)) (
    okn))))))))))))))))))))))))))))))))))))))))))
noncomputable def es_X12_act  : List (Nat × En) := [(222, en_X12_isBody), (149, en_X12_in), (229, en_X12_sitting), (232, en_X12_falling), (235, en_X12_landing), (237, en_X12_ranking)]
set_option maxRecDepth 100000 in
set_option maxHeartbeats 4000000 in
theorem eq_X12_act   (a0 : Int32) (a1 : Int32) (a2 : Int32) (s : SS) : ex (tb_X12_act (calE (es_X12_act))) rI [] (fun _ _ _ _ => none) 44 0 [some (.ref 74), some (.int a0), some (.int a1), some (.int a2)] [] s = f_X12_act a0 a1 a2 s := by
  rfl
set_option maxRecDepth 100000 in
set_option maxHeartbeats 4000000 in
theorem run_X12_act {l : Launch} {G : Gm}   (a0 : Int32) (a1 : Int32) (a2 : Int32) (s : SS) (q : (Int32 × SS)) (h : f_X12_act a0 a1 a2 s = some q) (D' : Nat) (hD : 9 ≤ D') : RunsM l G (D' + 1) (md 238) (embS s) [.ref 74, .int a0, .int a1, .int a2] (some (.int q.1)) (embS q.2) := by
  rw [md_X12_act]
  refine runs_I (plainFor_of_name (by decide +kernel)) (Nat.le_of_ble_eq_true rfl) rfl ?_
  intro A p e R s0 m args below meth c Q ad0 hR X hret
  have X : Cx G A RX12 cX12_act 4 p s0 m args c := X
  have hT := tk_X12_act X (calE_ok (es := es_X12_act) (enc (en_X12_isBody_ok _ (by omega)) (enc (en_X12_in_ok _ (by omega)) (enc (en_X12_sitting_ok _ (by omega)) (enc (en_X12_falling_ok _ (by omega)) (enc (en_X12_landing_ok _ (by omega)) (enc (en_X12_ranking_ok _ (by omega)) (enn)))))))) (rmD rfl hR) hret
  rw [← eq_X12_act   a0 a1 a2 s] at h
  refine ex_good hT (fun pc' ls' st' x' hh => ?_) 44 0 _ [] s h
  cases hh

noncomputable def en_X12_act  : En := fun _ av s k => match av with
  | [.ref r0, .int a0, .int a1, .int a2] => (gd (Nat.beq r0 74) (bI (f_X12_act a0 a1 a2 s) k))
  | _ => none
set_option maxRecDepth 100000 in
set_option maxHeartbeats 4000000 in
theorem en_X12_act_ok {l : Launch} {G : Gm} (D : Nat) (hD : 10 ≤ D) : enOK l G D 238 en_X12_act := by
  intro ρ av x k r h
  unfold en_X12_act at h
  split at h
  · obtain ⟨g0, h⟩ := gd_some h
    obtain ⟨q, h1, h2⟩ := bind_of h
    have e0 := beq1 g0
    subst e0
    obtain ⟨D', rfl⟩ : ∃ D', D = D' + 1 := ⟨D - 1, by omega⟩
    exact ⟨_, _, h2, run_X12_act  _ _ _ _ _ h1 D' (by omega)⟩
  · cases h

/-! HatRankModel count -/
noncomputable def tb_X12_count (cal : Cal SS) : List (Nat × Ins SS) := [(0, e_iload 1 1), (1, e_sw [(0, 48), (1, 53), (2, 58), (3, 63), (4, 68), (5, 73), (6, 78), (7, 83)] 88), (48, e_aload 0 49), (49, e_getI opsS 12 11 52), (52, e_iret), (53, e_aload 0 54), (54, e_getI opsS 12 4 57), (57, e_iret), (58, e_aload 0 59), (59, e_getI opsS 12 8 62), (62, e_iret), (63, e_aload 0 64), (64, e_getI opsS 12 1 67), (67, e_iret), (68, e_aload 0 69), (69, e_getI opsS 12 23 72), (72, e_iret), (73, e_aload 0 74), (74, e_getI opsS 12 16 77), (77, e_iret), (78, e_aload 0 79), (79, e_getI opsS 12 55 82), (82, e_iret), (83, e_aload 0 84), (84, e_getI opsS 12 57 87), (87, e_iret), (88, e_iconst (-1) 89), (89, e_iret)]
set_option maxRecDepth 100000 in
set_option maxHeartbeats 4000000 in
theorem tk_X12_count {ad0 : Nat → Nat} {G : Gm} {A : Nat → Prop} {p : Program} {l : Launch} {e : Env} {R : Room} {s0 : State} {m : MethodId} {args : Array Value} {below : List Frame} {meth : Method} {c : Code} {Q : State → Prop} {ρ : Type} {ret : Option Value → SS → Option ρ} {r : ρ} (X : Cx G A RX12 cX12_count 2 p s0 m args c) {D' : Nat} {cal : Cal SS} (hcal : calOK l G opsS D' cal) (hRm : ∀ k, k ≤ 21 → D' + 1 ≤ R.frames ∧ 8 + (k + 11) + 40 * D' ≤ R.locals) (hret : RetK G A cX12_count 113 6344 ad0 p l e R s0 m args below meth c Q opsS ret r .ireturn okI) : ∀ q ∈ tb_X12_count cal, OKi G A 2 113 6344 ad0 p l e R s0 m args below meth c Q opsS ret r q.1 q.2 :=
    okc (ok_iload_n (j := 1) X (by decide +kernel) rfl rfl) (
    okc (ok_tsw (dflt := 87) (lo := 0) (hi := 7) (offs := #[47, 52, 57, 62, 67, 72, 77, 82]) (len := 47) X (by decide +kernel) (tsw_out 1 87 0 7 #[47, 52, 57, 62, 67, 72, 77, 82] (by decide +kernel)) (tsw_in 1 87 0 7 #[47, 52, 57, 62, 67, 72, 77, 82] (by decide +kernel))) (
    okc (ok_aload_n (j := 0) X (by decide +kernel) rfl rfl) (
    okc (ok_getI (ci := 12) (kf := 11) (idx := 138) (C := RX12) (T := TX12) (N := 63) X rfl (by decide) inX12 (by decide) wf_X12_138 (fun _ _ _ => rfl) (by decide +kernel) rfl) (
    okc (ok_iret hret (by decide +kernel)) (
    okc (ok_aload_n (j := 0) X (by decide +kernel) rfl rfl) (
    okc (ok_getI (ci := 12) (kf := 4) (idx := 131) (C := RX12) (T := TX12) (N := 63) X rfl (by decide) inX12 (by decide) wf_X12_131 (fun _ _ _ => rfl) (by decide +kernel) rfl) (
    okc (ok_iret hret (by decide +kernel)) (
    okc (ok_aload_n (j := 0) X (by decide +kernel) rfl rfl) (
    okc (ok_getI (ci := 12) (kf := 8) (idx := 141) (C := RX12) (T := TX12) (N := 63) X rfl (by decide) inX12 (by decide) wf_X12_141 (fun _ _ _ => rfl) (by decide +kernel) rfl) (
    okc (ok_iret hret (by decide +kernel)) (
    okc (ok_aload_n (j := 0) X (by decide +kernel) rfl rfl) (
    okc (ok_getI (ci := 12) (kf := 1) (idx := 272) (C := RX12) (T := TX12) (N := 63) X rfl (by decide) inX12 (by decide) wf_X12_272 (fun _ _ _ => rfl) (by decide +kernel) rfl) (
    okc (ok_iret hret (by decide +kernel)) (
    okc (ok_aload_n (j := 0) X (by decide +kernel) rfl rfl) (
    okc (ok_getI (ci := 12) (kf := 23) (idx := 184) (C := RX12) (T := TX12) (N := 63) X rfl (by decide) inX12 (by decide) wf_X12_184 (fun _ _ _ => rfl) (by decide +kernel) rfl) (
    okc (ok_iret hret (by decide +kernel)) (
    okc (ok_aload_n (j := 0) X (by decide +kernel) rfl rfl) (
    okc (ok_getI (ci := 12) (kf := 16) (idx := 168) (C := RX12) (T := TX12) (N := 63) X rfl (by decide) inX12 (by decide) wf_X12_168 (fun _ _ _ => rfl) (by decide +kernel) rfl) (
    okc (ok_iret hret (by decide +kernel)) (
    okc (ok_aload_n (j := 0) X (by decide +kernel) rfl rfl) (
    okc (ok_getI (ci := 12) (kf := 55) (idx := 373) (C := RX12) (T := TX12) (N := 63) X rfl (by decide) inX12 (by decide) wf_X12_373 (fun _ _ _ => rfl) (by decide +kernel) rfl) (
    okc (ok_iret hret (by decide +kernel)) (
    okc (ok_aload_n (j := 0) X (by decide +kernel) rfl rfl) (
    okc (ok_getI (ci := 12) (kf := 57) (idx := 376) (C := RX12) (T := TX12) (N := 63) X rfl (by decide) inX12 (by decide) wf_X12_376 (fun _ _ _ => rfl) (by decide +kernel) rfl) (
    okc (ok_iret hret (by decide +kernel)) (
    okc (ok_iconst (n := -1) X (by decide +kernel) rfl rfl) (
    okc (ok_iret hret (by decide +kernel)) (
    okn))))))))))))))))))))))))))))
noncomputable def es_X12_count  : List (Nat × En) := []
set_option maxRecDepth 100000 in
set_option maxHeartbeats 4000000 in
theorem eq_X12_count   (a0 : Int32) (s : SS) : ex (tb_X12_count (calE (es_X12_count))) rI [] (fun _ _ _ _ => none) 30 0 [some (.ref 74), some (.int a0)] [] s = f_X12_count a0 s := by
  rfl
set_option maxRecDepth 100000 in
set_option maxHeartbeats 4000000 in
theorem run_X12_count {l : Launch} {G : Gm}   (a0 : Int32) (s : SS) (q : (Int32 × SS)) (h : f_X12_count a0 s = some q) (D' : Nat) (hD : 0 ≤ D') : RunsM l G (D' + 1) (md 239) (embS s) [.ref 74, .int a0] (some (.int q.1)) (embS q.2) := by
  rw [md_X12_count]
  refine runs_I (plainFor_of_name (by decide +kernel)) (Nat.le_of_ble_eq_true rfl) rfl ?_
  intro A p e R s0 m args below meth c Q ad0 hR X hret
  have X : Cx G A RX12 cX12_count 2 p s0 m args c := X
  have hT := tk_X12_count X (calE_ok (es := es_X12_count) (enn)) (rmD rfl hR) hret
  rw [← eq_X12_count   a0 s] at h
  refine ex_good hT (fun pc' ls' st' x' hh => ?_) 30 0 _ [] s h
  cases hh

noncomputable def en_X12_count  : En := fun _ av s k => match av with
  | [.ref r0, .int a0] => (gd (Nat.beq r0 74) (bI (f_X12_count a0 s) k))
  | _ => none
set_option maxRecDepth 100000 in
set_option maxHeartbeats 4000000 in
theorem en_X12_count_ok {l : Launch} {G : Gm} (D : Nat) (hD : 1 ≤ D) : enOK l G D 239 en_X12_count := by
  intro ρ av x k r h
  unfold en_X12_count at h
  split at h
  · obtain ⟨g0, h⟩ := gd_some h
    obtain ⟨q, h1, h2⟩ := bind_of h
    have e0 := beq1 g0
    subst e0
    obtain ⟨D', rfl⟩ : ∃ D', D = D' + 1 := ⟨D - 1, by omega⟩
    exact ⟨_, _, h2, run_X12_count  _ _ _ h1 D' (by omega)⟩
  · cases h

/-! HatRankModel keep -/
noncomputable def tb_X12_keep (cal : Cal SS) : List (Nat × Ins SS) := [(0, e_iload 1 1), (1, e_callS cal 240 1 4), (4, e_ifeq 20 7), (7, e_iload 2 8), (8, e_iconst (-1) 9), (9, e_ceq 22 12), (12, e_aload 0 13), (13, e_iload 2 14), (14, e_callV opsS cal 222 1 12 17), (17, e_ifne 22 20), (20, e_iconst (-1) 21), (21, e_iret), (22, e_aload 0 23), (23, e_getR opsS 12 59 26), (26, e_iload 1 27), (27, e_iload 2 28), (28, e_ast opsS 100 (fun v => v) 29), (29, e_iconst (1) 30), (30, e_iret)]
set_option maxRecDepth 100000 in
set_option maxHeartbeats 4000000 in
theorem tk_X12_keep {ad0 : Nat → Nat} {G : Gm} {A : Nat → Prop} {p : Program} {l : Launch} {e : Env} {R : Room} {s0 : State} {m : MethodId} {args : Array Value} {below : List Frame} {meth : Method} {c : Code} {Q : State → Prop} {ρ : Type} {ret : Option Value → SS → Option ρ} {r : ρ} (X : Cx G A RX12 cX12_keep 3 p s0 m args c) {D' : Nat} {cal : Cal SS} (hcal : calOK l G opsS D' cal) (hRm : ∀ k, k ≤ 21 → D' + 1 ≤ R.frames ∧ 8 + (k + 11) + 40 * D' ≤ R.locals) (hret : RetK G A cX12_keep 113 6344 ad0 p l e R s0 m args below meth c Q opsS ret r .ireturn okI) : ∀ q ∈ tb_X12_keep cal, OKi G A 3 113 6344 ad0 p l e R s0 m args below meth c Q opsS ret r q.1 q.2 :=
    okc (ok_iload_n (j := 1) X (by decide +kernel) rfl rfl) (
    okc (ok_callS (Y := (yX12_isShelf, cX12_isShelf, 1, (some .boolean))) X hcal opsS_n md_X12_isShelf wc_X12_isShelf wl_X12_156 wi_X12 ws_X12_isShelf (by decide +kernel) (hRm 1 (by decide)) (by decide +kernel) rfl) (
    okc (ok_ifeq (off := 16) X (by decide +kernel) (by decide) rfl) (
    okc (ok_iload_n (j := 2) X (by decide +kernel) rfl rfl) (
    okc (ok_iconst (n := -1) X (by decide +kernel) rfl rfl) (
    okc (ok_ceq (off := 13) X (by decide +kernel) (by decide) rfl) (
    okc (ok_aload_n (j := 0) X (by decide +kernel) rfl rfl) (
    okc (ok_iload_n (j := 2) X (by decide +kernel) rfl rfl) (
    okc (ok_callV (ci := 12) (C := RX12) (T := TX12) (N := 63) (Y := (yX12_isBody, cX12_isBody, 2, (some .boolean))) X hcal opsS_n md_X12_isBody rfl (by decide) rfl wc_X12_isBody wl_X12_415 wi_X12 wm_X12_isBody wv_X12_isBody (by decide +kernel) (hRm 2 (by decide)) (by decide +kernel) rfl) (
    okc (ok_ifne (off := 5) X (by decide +kernel) (by decide) rfl) (
    okc (ok_iconst (n := -1) X (by decide +kernel) rfl rfl) (
    okc (ok_iret hret (by decide +kernel)) (
    okc (ok_aload_n (j := 0) X (by decide +kernel) rfl rfl) (
    okc (ok_getR (ci := 12) (kf := 59) (idx := 114) (C := RX12) (T := TX12) (N := 63) X rfl (by decide) inX12 (by decide) wf_X12_114 (fun _ _ _ => rfl) (by decide +kernel) rfl) (
    okc (ok_iload_n (j := 1) X (by decide +kernel) rfl rfl) (
    okc (ok_iload_n (j := 2) X (by decide +kernel) rfl rfl) (
    okc (ok_iast X opsS_ok (by decide +kernel) rfl) (
    okc (ok_iconst (n := 1) X (by decide +kernel) rfl rfl) (
    okc (ok_iret hret (by decide +kernel)) (
    okn)))))))))))))))))))
noncomputable def es_X12_keep  : List (Nat × En) := [(240, en_X12_isShelf), (222, en_X12_isBody)]
set_option maxRecDepth 100000 in
set_option maxHeartbeats 4000000 in
theorem eq_X12_keep   (a0 : Int32) (a1 : Int32) (s : SS) : ex (tb_X12_keep (calE (es_X12_keep))) rI [] (fun _ _ _ _ => none) 21 0 [some (.ref 74), some (.int a0), some (.int a1)] [] s = f_X12_keep a0 a1 s := by
  rfl
set_option maxRecDepth 100000 in
set_option maxHeartbeats 4000000 in
theorem run_X12_keep {l : Launch} {G : Gm}   (a0 : Int32) (a1 : Int32) (s : SS) (q : (Int32 × SS)) (h : f_X12_keep a0 a1 s = some q) (D' : Nat) (hD : 2 ≤ D') : RunsM l G (D' + 1) (md 241) (embS s) [.ref 74, .int a0, .int a1] (some (.int q.1)) (embS q.2) := by
  rw [md_X12_keep]
  refine runs_I (plainFor_of_name (by decide +kernel)) (Nat.le_of_ble_eq_true rfl) rfl ?_
  intro A p e R s0 m args below meth c Q ad0 hR X hret
  have X : Cx G A RX12 cX12_keep 3 p s0 m args c := X
  have hT := tk_X12_keep X (calE_ok (es := es_X12_keep) (enc (en_X12_isShelf_ok _ (by omega)) (enc (en_X12_isBody_ok _ (by omega)) (enn)))) (rmD rfl hR) hret
  rw [← eq_X12_keep   a0 a1 s] at h
  refine ex_good hT (fun pc' ls' st' x' hh => ?_) 21 0 _ [] s h
  cases hh

noncomputable def en_X12_keep  : En := fun _ av s k => match av with
  | [.ref r0, .int a0, .int a1] => (gd (Nat.beq r0 74) (bI (f_X12_keep a0 a1 s) k))
  | _ => none
set_option maxRecDepth 100000 in
set_option maxHeartbeats 4000000 in
theorem en_X12_keep_ok {l : Launch} {G : Gm} (D : Nat) (hD : 3 ≤ D) : enOK l G D 241 en_X12_keep := by
  intro ρ av x k r h
  unfold en_X12_keep at h
  split at h
  · obtain ⟨g0, h⟩ := gd_some h
    obtain ⟨q, h1, h2⟩ := bind_of h
    have e0 := beq1 g0
    subst e0
    obtain ⟨D', rfl⟩ : ∃ D', D = D' + 1 := ⟨D - 1, by omega⟩
    exact ⟨_, _, h2, run_X12_keep  _ _ _ _ h1 D' (by omega)⟩
  · cases h

/-! HatRankModel row -/
noncomputable def tb_X12_row (cal : Cal SS) : List (Nat × Ins SS) := [(0, e_iload 1 1), (1, e_callS cal 240 1 4), (4, e_ifeq 22 7), (7, e_iload 2 8), (8, e_iconst (0) 9), (9, e_iconst (4) 10), (10, e_callS cal 149 3 13), (13, e_ifeq 22 16), (16, e_iload 3 17), (17, e_iconst (60) 19), (19, e_cle 24 22), (22, e_iconst (-1) 23), (23, e_iret), (24, e_iload 3 25), (25, e_ifge 31 28), (28, e_iconst (-14) 30), (30, e_iret), (31, e_aload 0 32), (32, e_getR opsS 12 59 35), (35, e_iload 1 36), (36, e_iconst (-2) 38), (38, e_iload 2 39), (39, e_bin aSub 40), (40, e_ast opsS 100 (fun v => v) 41), (41, e_aload 0 42), (42, e_getR opsS 12 60 45), (45, e_iload 1 46), (46, e_iload 3 47), (47, e_ast opsS 100 (fun v => v) 48), (48, e_iconst (60) 50), (50, e_iload 1 51), (51, e_bin aMul 52), (52, e_istore 4 54), (54, e_iload 4 56), (56, e_iconst (60) 58), (58, e_iload 1 59), (59, e_bin aMul 60), (60, e_iconst (60) 62), (62, e_bin aAdd 63), (63, e_cge 80 66), (66, e_aload 0 67), (67, e_getR opsS 12 61 70), (70, e_iload 4 72), (72, e_lconst (0) 73), (73, e_last opsS 74), (74, e_iinc 4 (1) 77), (77, e_goto 54), (80, e_iconst (1) 81), (81, e_iret)]
set_option maxRecDepth 100000 in
set_option maxHeartbeats 4000000 in
theorem tk_X12_row {ad0 : Nat → Nat} {G : Gm} {A : Nat → Prop} {p : Program} {l : Launch} {e : Env} {R : Room} {s0 : State} {m : MethodId} {args : Array Value} {below : List Frame} {meth : Method} {c : Code} {Q : State → Prop} {ρ : Type} {ret : Option Value → SS → Option ρ} {r : ρ} (X : Cx G A RX12 cX12_row 5 p s0 m args c) {D' : Nat} {cal : Cal SS} (hcal : calOK l G opsS D' cal) (hRm : ∀ k, k ≤ 21 → D' + 1 ≤ R.frames ∧ 8 + (k + 11) + 40 * D' ≤ R.locals) (hret : RetK G A cX12_row 113 6344 ad0 p l e R s0 m args below meth c Q opsS ret r .ireturn okI) : ∀ q ∈ tb_X12_row cal, OKi G A 5 113 6344 ad0 p l e R s0 m args below meth c Q opsS ret r q.1 q.2 :=
    okc (ok_iload_n (j := 1) X (by decide +kernel) rfl rfl) (
    okc (ok_callS (Y := (yX12_isShelf, cX12_isShelf, 1, (some .boolean))) X hcal opsS_n md_X12_isShelf wc_X12_isShelf wl_X12_156 wi_X12 ws_X12_isShelf (by decide +kernel) (hRm 1 (by decide)) (by decide +kernel) rfl) (
    okc (ok_ifeq (off := 18) X (by decide +kernel) (by decide) rfl) (
    okc (ok_iload_n (j := 2) X (by decide +kernel) rfl rfl) (
    okc (ok_iconst (n := 0) X (by decide +kernel) rfl rfl) (
    okc (ok_iconst (n := 4) X (by decide +kernel) rfl rfl) (
    okc (ok_callS (Y := (yX12_in, cX12_in, 3, (some .boolean))) X hcal opsS_n md_X12_in wc_X12_in wl_X12_134 wi_X12 ws_X12_in (by decide +kernel) (hRm 3 (by decide)) (by decide +kernel) rfl) (
    okc (ok_ifeq (off := 9) X (by decide +kernel) (by decide) rfl) (
    okc (ok_iload_n (j := 3) X (by decide +kernel) rfl rfl) (
    okc (ok_bipush (n := 60) X (by decide +kernel) rfl rfl) (
    okc (ok_cle (off := 5) X (by decide +kernel) (by decide) rfl) (
    okc (ok_iconst (n := -1) X (by decide +kernel) rfl rfl) (
    okc (ok_iret hret (by decide +kernel)) (
    okc (ok_iload_n (j := 3) X (by decide +kernel) rfl rfl) (
    okc (ok_ifge (off := 6) X (by decide +kernel) (by decide) rfl) (
    okc (ok_bipush (n := -14) X (by decide +kernel) rfl rfl) (
    okc (ok_iret hret (by decide +kernel)) (
    okc (ok_aload_n (j := 0) X (by decide +kernel) rfl rfl) (
    okc (ok_getR (ci := 12) (kf := 59) (idx := 114) (C := RX12) (T := TX12) (N := 63) X rfl (by decide) inX12 (by decide) wf_X12_114 (fun _ _ _ => rfl) (by decide +kernel) rfl) (
    okc (ok_iload_n (j := 1) X (by decide +kernel) rfl rfl) (
    okc (ok_bipush (n := -2) X (by decide +kernel) rfl rfl) (
    okc (ok_iload_n (j := 2) X (by decide +kernel) rfl rfl) (
    okc (ok_isub X (by decide +kernel) rfl) (
    okc (ok_iast X opsS_ok (by decide +kernel) rfl) (
    okc (ok_aload_n (j := 0) X (by decide +kernel) rfl rfl) (
    okc (ok_getR (ci := 12) (kf := 60) (idx := 117) (C := RX12) (T := TX12) (N := 63) X rfl (by decide) inX12 (by decide) wf_X12_117 (fun _ _ _ => rfl) (by decide +kernel) rfl) (
    okc (ok_iload_n (j := 1) X (by decide +kernel) rfl rfl) (
    okc (ok_iload_n (j := 3) X (by decide +kernel) rfl rfl) (
    okc (ok_iast X opsS_ok (by decide +kernel) rfl) (
    okc (ok_bipush (n := 60) X (by decide +kernel) rfl rfl) (
    okc (ok_iload_n (j := 1) X (by decide +kernel) rfl rfl) (
    okc (ok_imul X (by decide +kernel) rfl) (
    okc (ok_istore X (by decide +kernel) rfl) (
    okc (ok_iload X (by decide +kernel) rfl) (
    okc (ok_bipush (n := 60) X (by decide +kernel) rfl rfl) (
    okc (ok_iload_n (j := 1) X (by decide +kernel) rfl rfl) (
    okc (ok_imul X (by decide +kernel) rfl) (
    okc (ok_bipush (n := 60) X (by decide +kernel) rfl rfl) (
    okc (ok_iadd X (by decide +kernel) rfl) (
    okc (ok_cge (off := 17) X (by decide +kernel) (by decide) rfl) (
    okc (ok_aload_n (j := 0) X (by decide +kernel) rfl rfl) (
    okc (ok_getR (ci := 12) (kf := 61) (idx := 120) (C := RX12) (T := TX12) (N := 63) X rfl (by decide) inX12 (by decide) wf_X12_120 (fun _ _ _ => rfl) (by decide +kernel) rfl) (
    okc (ok_iload X (by decide +kernel) rfl) (
    okc (ok_lconst (n := 0) X (by decide +kernel) rfl rfl) (
    okc (ok_last X opsS_ok (by decide +kernel) rfl) (
    okc (ok_iinc (n := 1) X (by decide +kernel) rfl rfl) (
    okc (ok_goto (off := -23) X (by decide +kernel) (by decide)) (
    okc (ok_iconst (n := 1) X (by decide +kernel) rfl rfl) (
    okc (ok_iret hret (by decide +kernel)) (
    okn)))))))))))))))))))))))))))))))))))))))))))))))))
noncomputable def es_X12_row  : List (Nat × En) := [(240, en_X12_isShelf), (149, en_X12_in)]
noncomputable def ka_X12_row_54   (n : Nat) : Kn SS (Int32 × SS) := fun pc ls st s => bif Nat.beq pc 54 then (match ls, st with
    | [some y0, some (.int x1), _, _, some (.int x4)], [] => (gd (veq y0 (.ref 74)) (F_X12_row_54 n x1 x4 s))
    | _, _ => none) else (none)
set_option maxRecDepth 100000 in
set_option maxHeartbeats 4000000 in
theorem eq_X12_row_54    (n : Nat) (x1 : Int32) (x4 : Int32) (s : SS) : ex (tb_X12_row (calE (es_X12_row))) rI [54] (ka_X12_row_54   n) 51 54 [some (.ref 74), some (.int x1), none, none, some (.int x4)] [] s = F_X12_row_54   (n + 1) x1 x4 s := by
  rfl
set_option maxRecDepth 100000 in
set_option maxHeartbeats 4000000 in
theorem gd_X12_row_54 {ad0 : Nat → Nat} {G : Gm} {A : Nat → Prop} {p : Program} {l : Launch} {e : Env} {R : Room} {s0 : State} {m : MethodId} {args : Array Value} {below : List Frame} {meth : Method} {c : Code} {Q : State → Prop} {r : (Int32 × SS)}   (hT : ∀ q ∈ tb_X12_row (calE (es_X12_row)), OKi G A 5 113 6344 ad0 p l e R s0 m args below meth c Q opsS rI r q.1 q.2)   : ∀ (n : Nat) (x1 : Int32) (x4 : Int32) (s : SS), F_X12_row_54   n x1 x4 s = some r → Gd G A 5 113 6344 ad0 p l e R s0 m args below meth c Q opsS 54 [some (.ref 74), some (.int x1), none, none, some (.int x4)] [] s := by
  intro n
  induction n with
  | zero =>
    intro x1 x4 s hh
    exact absurd (show (none : Option (Int32 × SS)) = some r from hh) (by simp)
  | succ n ih =>
    intro x1 x4 s hh
    rw [← eq_X12_row_54    n x1 x4 s] at hh
    refine ex_good hT (fun pc' ls' st' x' hh => ?_) 51 54 _ [] s hh
    unfold ka_X12_row_54 at hh
    cases hb : Nat.beq pc' 54 with
    | true =>
      rw [hb] at hh
      have e9 := beq1 hb
      subst e9
      simp only [cond_true] at hh
      split at hh
      · obtain ⟨g0, hh1⟩ := gd_some hh
        have e0 := veq_of g0
        subst e0
        exact Gd.wk (ih _ _ _ hh1) (Lle.eq (Lle.eq (Lle.no (Lle.no (Lle.eq Lle.nil)))))
      · cases hh
    | false =>
      rw [hb] at hh
      simp only [cond_false] at hh
      cases hh

noncomputable def ka_X12_row  : Kn SS (Int32 × SS) := fun pc ls st s => bif Nat.beq pc 54 then (match ls, st with
    | [some y0, some (.int x1), _, _, some (.int x4)], [] => (gd (veq y0 (.ref 74)) (F_X12_row_54 fuel0 x1 x4 s))
    | _, _ => none) else (none)
set_option maxRecDepth 100000 in
set_option maxHeartbeats 4000000 in
theorem eq_X12_row   (a0 : Int32) (a1 : Int32) (a2 : Int32) (s : SS) : ex (tb_X12_row (calE (es_X12_row))) rI [54] (ka_X12_row ) 51 0 [some (.ref 74), some (.int a0), some (.int a1), some (.int a2), none] [] s = f_X12_row a0 a1 a2 s := by
  rfl
set_option maxRecDepth 100000 in
set_option maxHeartbeats 4000000 in
theorem run_X12_row {l : Launch} {G : Gm}   (a0 : Int32) (a1 : Int32) (a2 : Int32) (s : SS) (q : (Int32 × SS)) (h : f_X12_row a0 a1 a2 s = some q) (D' : Nat) (hD : 2 ≤ D') : RunsM l G (D' + 1) (md 242) (embS s) [.ref 74, .int a0, .int a1, .int a2] (some (.int q.1)) (embS q.2) := by
  rw [md_X12_row]
  refine runs_I (plainFor_of_name (by decide +kernel)) (Nat.le_of_ble_eq_true rfl) rfl ?_
  intro A p e R s0 m args below meth c Q ad0 hR X hret
  have X : Cx G A RX12 cX12_row 5 p s0 m args c := X
  have hT := tk_X12_row X (calE_ok (es := es_X12_row) (enc (en_X12_isShelf_ok _ (by omega)) (enc (en_X12_in_ok _ (by omega)) (enn)))) (rmD rfl hR) hret
  rw [← eq_X12_row   a0 a1 a2 s] at h
  refine ex_good hT (fun pc' ls' st' x' hh => ?_) 51 0 _ [] s h
  unfold ka_X12_row at hh
  cases hb : Nat.beq pc' 54 with
  | true =>
    rw [hb] at hh
    have e9 := beq1 hb
    subst e9
    simp only [cond_true] at hh
    split at hh
    · obtain ⟨g0, hh1⟩ := gd_some hh
      have e0 := veq_of g0
      subst e0
      exact Gd.wk (gd_X12_row_54 hT  _ _ _ _ hh1) (Lle.eq (Lle.eq (Lle.no (Lle.no (Lle.eq Lle.nil)))))
    · cases hh
  | false =>
    rw [hb] at hh
    simp only [cond_false] at hh
    cases hh

noncomputable def en_X12_row  : En := fun _ av s k => match av with
  | [.ref r0, .int a0, .int a1, .int a2] => (gd (Nat.beq r0 74) (bI (f_X12_row a0 a1 a2 s) k))
  | _ => none
set_option maxRecDepth 100000 in
set_option maxHeartbeats 4000000 in
theorem en_X12_row_ok {l : Launch} {G : Gm} (D : Nat) (hD : 3 ≤ D) : enOK l G D 242 en_X12_row := by
  intro ρ av x k r h
  unfold en_X12_row at h
  split at h
  · obtain ⟨g0, h⟩ := gd_some h
    obtain ⟨q, h1, h2⟩ := bind_of h
    have e0 := beq1 g0
    subst e0
    obtain ⟨D', rfl⟩ : ∃ D', D = D' + 1 := ⟨D - 1, by omega⟩
    exact ⟨_, _, h2, run_X12_row  _ _ _ _ _ h1 D' (by omega)⟩
  · cases h

/-! HatRankModel whyNoPlace -/
noncomputable def tb_X12_whyNoPlace (cal : Cal SS) : List (Nat × Ins SS) := [(0, e_iload 1 1), (1, e_callS cal 240 1 4), (4, e_ifne 9 7), (7, e_iconst (-1) 8), (8, e_iret), (9, e_aload 0 10), (10, e_getR opsS 12 59 13), (13, e_iload 1 14), (14, e_ald opsS 100 15), (15, e_iconst (-1) 16), (16, e_cne 22 19), (19, e_iconst (-11) 21), (21, e_iret), (22, e_aload 0 23), (23, e_getR opsS 12 59 26), (26, e_iload 1 27), (27, e_ald opsS 100 28), (28, e_iflt 34 31), (31, e_iconst (-12) 33), (33, e_iret), (34, e_iload 2 35), (35, e_iconst (0) 36), (36, e_aload 0 37), (37, e_getR opsS 12 60 40), (40, e_iload 1 41), (41, e_ald opsS 100 42), (42, e_iconst (1) 43), (43, e_bin aSub 44), (44, e_callS cal 149 3 47), (47, e_ifeq 54 50), (50, e_iconst (0) 51), (51, e_goto 56), (54, e_iconst (-13) 56), (56, e_iret)]
set_option maxRecDepth 100000 in
set_option maxHeartbeats 4000000 in
theorem tk_X12_whyNoPlace {ad0 : Nat → Nat} {G : Gm} {A : Nat → Prop} {p : Program} {l : Launch} {e : Env} {R : Room} {s0 : State} {m : MethodId} {args : Array Value} {below : List Frame} {meth : Method} {c : Code} {Q : State → Prop} {ρ : Type} {ret : Option Value → SS → Option ρ} {r : ρ} (X : Cx G A RX12 cX12_whyNoPlace 3 p s0 m args c) {D' : Nat} {cal : Cal SS} (hcal : calOK l G opsS D' cal) (hRm : ∀ k, k ≤ 21 → D' + 1 ≤ R.frames ∧ 8 + (k + 11) + 40 * D' ≤ R.locals) (hret : RetK G A cX12_whyNoPlace 113 6344 ad0 p l e R s0 m args below meth c Q opsS ret r .ireturn okI) : ∀ q ∈ tb_X12_whyNoPlace cal, OKi G A 3 113 6344 ad0 p l e R s0 m args below meth c Q opsS ret r q.1 q.2 :=
    okc (ok_iload_n (j := 1) X (by decide +kernel) rfl rfl) (
    okc (ok_callS (Y := (yX12_isShelf, cX12_isShelf, 1, (some .boolean))) X hcal opsS_n md_X12_isShelf wc_X12_isShelf wl_X12_156 wi_X12 ws_X12_isShelf (by decide +kernel) (hRm 1 (by decide)) (by decide +kernel) rfl) (
    okc (ok_ifne (off := 5) X (by decide +kernel) (by decide) rfl) (
    okc (ok_iconst (n := -1) X (by decide +kernel) rfl rfl) (
    okc (ok_iret hret (by decide +kernel)) (
    okc (ok_aload_n (j := 0) X (by decide +kernel) rfl rfl) (
    okc (ok_getR (ci := 12) (kf := 59) (idx := 114) (C := RX12) (T := TX12) (N := 63) X rfl (by decide) inX12 (by decide) wf_X12_114 (fun _ _ _ => rfl) (by decide +kernel) rfl) (
    okc (ok_iload_n (j := 1) X (by decide +kernel) rfl rfl) (
    okc (ok_iald X (by decide +kernel) rfl) (
    okc (ok_iconst (n := -1) X (by decide +kernel) rfl rfl) (
    okc (ok_cne (off := 6) X (by decide +kernel) (by decide) rfl) (
    okc (ok_bipush (n := -11) X (by decide +kernel) rfl rfl) (
    okc (ok_iret hret (by decide +kernel)) (
    okc (ok_aload_n (j := 0) X (by decide +kernel) rfl rfl) (
    okc (ok_getR (ci := 12) (kf := 59) (idx := 114) (C := RX12) (T := TX12) (N := 63) X rfl (by decide) inX12 (by decide) wf_X12_114 (fun _ _ _ => rfl) (by decide +kernel) rfl) (
    okc (ok_iload_n (j := 1) X (by decide +kernel) rfl rfl) (
    okc (ok_iald X (by decide +kernel) rfl) (
    okc (ok_iflt (off := 6) X (by decide +kernel) (by decide) rfl) (
    okc (ok_bipush (n := -12) X (by decide +kernel) rfl rfl) (
    okc (ok_iret hret (by decide +kernel)) (
    okc (ok_iload_n (j := 2) X (by decide +kernel) rfl rfl) (
    okc (ok_iconst (n := 0) X (by decide +kernel) rfl rfl) (
    okc (ok_aload_n (j := 0) X (by decide +kernel) rfl rfl) (
    okc (ok_getR (ci := 12) (kf := 60) (idx := 117) (C := RX12) (T := TX12) (N := 63) X rfl (by decide) inX12 (by decide) wf_X12_117 (fun _ _ _ => rfl) (by decide +kernel) rfl) (
    okc (ok_iload_n (j := 1) X (by decide +kernel) rfl rfl) (
    okc (ok_iald X (by decide +kernel) rfl) (
    okc (ok_iconst (n := 1) X (by decide +kernel) rfl rfl) (
    okc (ok_isub X (by decide +kernel) rfl) (
    okc (ok_callS (Y := (yX12_in, cX12_in, 3, (some .boolean))) X hcal opsS_n md_X12_in wc_X12_in wl_X12_134 wi_X12 ws_X12_in (by decide +kernel) (hRm 3 (by decide)) (by decide +kernel) rfl) (
    okc (ok_ifeq (off := 7) X (by decide +kernel) (by decide) rfl) (
    okc (ok_iconst (n := 0) X (by decide +kernel) rfl rfl) (
    okc (ok_goto (off := 5) X (by decide +kernel) (by decide)) (
    okc (ok_bipush (n := -13) X (by decide +kernel) rfl rfl) (
    okc (ok_iret hret (by decide +kernel)) (
    okn))))))))))))))))))))))))))))))))))
noncomputable def es_X12_whyNoPlace  : List (Nat × En) := [(240, en_X12_isShelf), (149, en_X12_in)]
set_option maxRecDepth 100000 in
set_option maxHeartbeats 4000000 in
theorem eq_X12_whyNoPlace   (a0 : Int32) (a1 : Int32) (s : SS) : ex (tb_X12_whyNoPlace (calE (es_X12_whyNoPlace))) rI [] (fun _ _ _ _ => none) 36 0 [some (.ref 74), some (.int a0), some (.int a1)] [] s = f_X12_whyNoPlace a0 a1 s := by
  rfl
set_option maxRecDepth 100000 in
set_option maxHeartbeats 4000000 in
theorem run_X12_whyNoPlace {l : Launch} {G : Gm}   (a0 : Int32) (a1 : Int32) (s : SS) (q : (Int32 × SS)) (h : f_X12_whyNoPlace a0 a1 s = some q) (D' : Nat) (hD : 2 ≤ D') : RunsM l G (D' + 1) (md 243) (embS s) [.ref 74, .int a0, .int a1] (some (.int q.1)) (embS q.2) := by
  rw [md_X12_whyNoPlace]
  refine runs_I (plainFor_of_name (by decide +kernel)) (Nat.le_of_ble_eq_true rfl) rfl ?_
  intro A p e R s0 m args below meth c Q ad0 hR X hret
  have X : Cx G A RX12 cX12_whyNoPlace 3 p s0 m args c := X
  have hT := tk_X12_whyNoPlace X (calE_ok (es := es_X12_whyNoPlace) (enc (en_X12_isShelf_ok _ (by omega)) (enc (en_X12_in_ok _ (by omega)) (enn)))) (rmD rfl hR) hret
  rw [← eq_X12_whyNoPlace   a0 a1 s] at h
  refine ex_good hT (fun pc' ls' st' x' hh => ?_) 36 0 _ [] s h
  cases hh

noncomputable def en_X12_whyNoPlace  : En := fun _ av s k => match av with
  | [.ref r0, .int a0, .int a1] => (gd (Nat.beq r0 74) (bI (f_X12_whyNoPlace a0 a1 s) k))
  | _ => none
set_option maxRecDepth 100000 in
set_option maxHeartbeats 4000000 in
theorem en_X12_whyNoPlace_ok {l : Launch} {G : Gm} (D : Nat) (hD : 3 ≤ D) : enOK l G D 243 en_X12_whyNoPlace := by
  intro ρ av x k r h
  unfold en_X12_whyNoPlace at h
  split at h
  · obtain ⟨g0, h⟩ := gd_some h
    obtain ⟨q, h1, h2⟩ := bind_of h
    have e0 := beq1 g0
    subst e0
    obtain ⟨D', rfl⟩ : ∃ D', D = D' + 1 := ⟨D - 1, by omega⟩
    exact ⟨_, _, h2, run_X12_whyNoPlace  _ _ _ _ h1 D' (by omega)⟩
  · cases h

/-! HatRankModel put -/
noncomputable def tb_X12_put (cal : Cal SS) : List (Nat × Ins SS) := [(0, e_aload 0 1), (1, e_iload 1 2), (2, e_iload 2 3), (3, e_callV opsS cal 243 2 12 6), (6, e_istore 5 8), (8, e_iload 5 10), (10, e_ifge 16 13), (13, e_iload 5 15), (15, e_iret), (16, e_iconst (-2) 18), (18, e_aload 0 19), (19, e_getR opsS 12 59 22), (22, e_iload 1 23), (23, e_ald opsS 100 24), (24, e_bin aSub 25), (25, e_istore 6 27), (27, e_aload 0 28), (28, e_getR opsS 12 61 31), (31, e_iconst (60) 33), (33, e_iload 1 34), (34, e_bin aMul 35), (35, e_iload 2 36), (36, e_bin aAdd 37), (37, e_iload 6 39), (39, e_ifne 49 42), (42, e_lload 3 43), (43, e_l2i 44), (44, e_un aB 45), (45, e_i2l 46), (46, e_goto 95), (49, e_iload 6 51), (51, e_iconst (1) 52), (52, e_cne 62 55), (55, e_lload 3 56), (56, e_l2i 57), (57, e_un aS 58), (58, e_i2l 59), (59, e_goto 95), (62, e_iload 6 64), (64, e_iconst (2) 65), (65, e_cne 74 68), (68, e_lload 3 69), (69, e_l2i 70), (70, e_i2l 71), (71, e_goto 95), (74, e_iload 6 76), (76, e_iconst (3) 77), (77, e_cne 84 80), (80, e_lload 3 81), (81, e_goto 95), (84, e_lload 3 85), (85, e_lconst (0) 86), (86, e_lcmp 87), (87, e_ifeq 94 90), (90, e_lconst (1) 91), (91, e_goto 95), (94, e_lconst (0) 95), (95, e_last opsS 96), (96, e_iconst (1) 97), (97, e_iret)]
set_option maxRecDepth 100000 in
set_option maxHeartbeats 4000000 in
theorem tk_X12_put {ad0 : Nat → Nat} {G : Gm} {A : Nat → Prop} {p : Program} {l : Launch} {e : Env} {R : Room} {s0 : State} {m : MethodId} {args : Array Value} {below : List Frame} {meth : Method} {c : Code} {Q : State → Prop} {ρ : Type} {ret : Option Value → SS → Option ρ} {r : ρ} (X : Cx G A RX12 cX12_put 7 p s0 m args c) {D' : Nat} {cal : Cal SS} (hcal : calOK l G opsS D' cal) (hRm : ∀ k, k ≤ 21 → D' + 1 ≤ R.frames ∧ 8 + (k + 11) + 40 * D' ≤ R.locals) (hret : RetK G A cX12_put 113 6344 ad0 p l e R s0 m args below meth c Q opsS ret r .ireturn okI) : ∀ q ∈ tb_X12_put cal, OKi G A 7 113 6344 ad0 p l e R s0 m args below meth c Q opsS ret r q.1 q.2 :=
    okc (ok_aload_n (j := 0) X (by decide +kernel) rfl rfl) (
    okc (ok_iload_n (j := 1) X (by decide +kernel) rfl rfl) (
    okc (ok_iload_n (j := 2) X (by decide +kernel) rfl rfl) (
    okc (ok_callV (ci := 12) (C := RX12) (T := TX12) (N := 63) (Y := (yX12_whyNoPlace, cX12_whyNoPlace, 3, (some .int))) X hcal opsS_n md_X12_whyNoPlace rfl (by decide) rfl wc_X12_whyNoPlace wl_X12_421 wi_X12 wm_X12_whyNoPlace wv_X12_whyNoPlace (by decide +kernel) (hRm 3 (by decide)) (by decide +kernel) rfl) (
    okc (ok_istore X (by decide +kernel) rfl) (
    okc (ok_iload X (by decide +kernel) rfl) (
    okc (ok_ifge (off := 6) X (by decide +kernel) (by decide) rfl) (
    okc (ok_iload X (by decide +kernel) rfl) (
    okc (ok_iret hret (by decide +kernel)) (
    okc (ok_bipush (n := -2) X (by decide +kernel) rfl rfl) (
    okc (ok_aload_n (j := 0) X (by decide +kernel) rfl rfl) (
    okc (ok_getR (ci := 12) (kf := 59) (idx := 114) (C := RX12) (T := TX12) (N := 63) X rfl (by decide) inX12 (by decide) wf_X12_114 (fun _ _ _ => rfl) (by decide +kernel) rfl) (
    okc (ok_iload_n (j := 1) X (by decide +kernel) rfl rfl) (
    okc (ok_iald X (by decide +kernel) rfl) (
    okc (ok_isub X (by decide +kernel) rfl) (
    okc (ok_istore X (by decide +kernel) rfl) (
    okc (ok_aload_n (j := 0) X (by decide +kernel) rfl rfl) (
    okc (ok_getR (ci := 12) (kf := 61) (idx := 120) (C := RX12) (T := TX12) (N := 63) X rfl (by decide) inX12 (by decide) wf_X12_120 (fun _ _ _ => rfl) (by decide +kernel) rfl) (
    okc (ok_bipush (n := 60) X (by decide +kernel) rfl rfl) (
    okc (ok_iload_n (j := 1) X (by decide +kernel) rfl rfl) (
    okc (ok_imul X (by decide +kernel) rfl) (
    okc (ok_iload_n (j := 2) X (by decide +kernel) rfl rfl) (
    okc (ok_iadd X (by decide +kernel) rfl) (
    okc (ok_iload X (by decide +kernel) rfl) (
    okc (ok_ifne (off := 10) X (by decide +kernel) (by decide) rfl) (
    okc (ok_lload_n (j := 3) X (by decide +kernel) rfl rfl) (
    okc (ok_l2i X (by decide +kernel) rfl) (
    okc (ok_i2b X (by decide +kernel) rfl) (
    okc (ok_i2l X (by decide +kernel) rfl) (
    okc (ok_goto (off := 49) X (by decide +kernel) (by decide)) (
    okc (ok_iload X (by decide +kernel) rfl) (
    okc (ok_iconst (n := 1) X (by decide +kernel) rfl rfl) (
    okc (ok_cne (off := 10) X (by decide +kernel) (by decide) rfl) (
    okc (ok_lload_n (j := 3) X (by decide +kernel) rfl rfl) (
    okc (ok_l2i X (by decide +kernel) rfl) (
    okc (ok_i2s X (by decide +kernel) rfl) (
    okc (ok_i2l X (by decide +kernel) rfl) (
    okc (ok_goto (off := 36) X (by decide +kernel) (by decide)) (
    okc (ok_iload X (by decide +kernel) rfl) (
    okc (ok_iconst (n := 2) X (by decide +kernel) rfl rfl) (
    okc (ok_cne (off := 9) X (by decide +kernel) (by decide) rfl) (
    okc (ok_lload_n (j := 3) X (by decide +kernel) rfl rfl) (
    okc (ok_l2i X (by decide +kernel) rfl) (
    okc (ok_i2l X (by decide +kernel) rfl) (
    okc (ok_goto (off := 24) X (by decide +kernel) (by decide)) (
    okc (ok_iload X (by decide +kernel) rfl) (
    okc (ok_iconst (n := 3) X (by decide +kernel) rfl rfl) (
    okc (ok_cne (off := 7) X (by decide +kernel) (by decide) rfl) (
    okc (ok_lload_n (j := 3) X (by decide +kernel) rfl rfl) (
    okc (ok_goto (off := 14) X (by decide +kernel) (by decide)) (
    okc (ok_lload_n (j := 3) X (by decide +kernel) rfl rfl) (
    okc (ok_lconst (n := 0) X (by decide +kernel) rfl rfl) (
    okc (ok_lcmp X (by decide +kernel) rfl) (
    okc (ok_ifeq (off := 7) X (by decide +kernel) (by decide) rfl) (
    okc (ok_lconst (n := 1) X (by decide +kernel) rfl rfl) (
    okc (ok_goto (off := 4) X (by decide +kernel) (by decide)) (
    okc (ok_lconst (n := 0) X (by decide +kernel) rfl rfl) (
    okc (ok_last X opsS_ok (by decide +kernel) rfl) (
    okc (ok_iconst (n := 1) X (by decide +kernel) rfl rfl) (
    okc (ok_iret hret (by decide +kernel)) (
    okn))))))))))))))))))))))))))))))))))))))))))))))))))))))))))))
noncomputable def es_X12_put  : List (Nat × En) := [(243, en_X12_whyNoPlace)]
set_option maxRecDepth 100000 in
set_option maxHeartbeats 4000000 in
theorem eq_X12_put   (a0 : Int32) (a1 : Int32) (a2 : Int64) (s : SS) : ex (tb_X12_put (calE (es_X12_put))) rI [] (fun _ _ _ _ => none) 62 0 [some (.ref 74), some (.int a0), some (.int a1), some (.long a2), none, none, none] [] s = f_X12_put a0 a1 a2 s := by
  rfl
set_option maxRecDepth 100000 in
set_option maxHeartbeats 4000000 in
theorem run_X12_put {l : Launch} {G : Gm}   (a0 : Int32) (a1 : Int32) (a2 : Int64) (s : SS) (q : (Int32 × SS)) (h : f_X12_put a0 a1 a2 s = some q) (D' : Nat) (hD : 3 ≤ D') : RunsM l G (D' + 1) (md 244) (embS s) [.ref 74, .int a0, .int a1, .long a2] (some (.int q.1)) (embS q.2) := by
  rw [md_X12_put]
  refine runs_I (plainFor_of_name (by decide +kernel)) (Nat.le_of_ble_eq_true rfl) rfl ?_
  intro A p e R s0 m args below meth c Q ad0 hR X hret
  have X : Cx G A RX12 cX12_put 7 p s0 m args c := X
  have hT := tk_X12_put X (calE_ok (es := es_X12_put) (enc (en_X12_whyNoPlace_ok _ (by omega)) (enn))) (rmD rfl hR) hret
  rw [← eq_X12_put   a0 a1 a2 s] at h
  refine ex_good hT (fun pc' ls' st' x' hh => ?_) 62 0 _ [] s h
  cases hh

noncomputable def en_X12_put  : En := fun _ av s k => match av with
  | [.ref r0, .int a0, .int a1, .long a2] => (gd (Nat.beq r0 74) (bI (f_X12_put a0 a1 a2 s) k))
  | _ => none
set_option maxRecDepth 100000 in
set_option maxHeartbeats 4000000 in
theorem en_X12_put_ok {l : Launch} {G : Gm} (D : Nat) (hD : 4 ≤ D) : enOK l G D 244 en_X12_put := by
  intro ρ av x k r h
  unfold en_X12_put at h
  split at h
  · obtain ⟨g0, h⟩ := gd_some h
    obtain ⟨q, h1, h2⟩ := bind_of h
    have e0 := beq1 g0
    subst e0
    obtain ⟨D', rfl⟩ : ∃ D', D = D' + 1 := ⟨D - 1, by omega⟩
    exact ⟨_, _, h2, run_X12_put  _ _ _ _ _ h1 D' (by omega)⟩
  · cases h

/-! HatRankModel element -/
noncomputable def tb_X12_element (cal : Cal SS) : List (Nat × Ins SS) := [(0, e_aload 0 1), (1, e_iload 1 2), (2, e_iload 2 3), (3, e_callV opsS cal 243 2 12 6), (6, e_ifge 15 9), (9, e_lconst (-9223372036854775808) 12), (12, e_goto 26), (15, e_aload 0 16), (16, e_getR opsS 12 61 19), (19, e_iconst (60) 21), (21, e_iload 1 22), (22, e_bin aMul 23), (23, e_iload 2 24), (24, e_bin aAdd 25), (25, e_lald opsS 26), (26, e_lret)]
set_option maxRecDepth 100000 in
set_option maxHeartbeats 4000000 in
theorem tk_X12_element {ad0 : Nat → Nat} {G : Gm} {A : Nat → Prop} {p : Program} {l : Launch} {e : Env} {R : Room} {s0 : State} {m : MethodId} {args : Array Value} {below : List Frame} {meth : Method} {c : Code} {Q : State → Prop} {ρ : Type} {ret : Option Value → SS → Option ρ} {r : ρ} (X : Cx G A RX12 cX12_element 3 p s0 m args c) {D' : Nat} {cal : Cal SS} (hcal : calOK l G opsS D' cal) (hRm : ∀ k, k ≤ 21 → D' + 1 ≤ R.frames ∧ 8 + (k + 11) + 40 * D' ≤ R.locals) (hret : RetK G A cX12_element 113 6344 ad0 p l e R s0 m args below meth c Q opsS ret r .lreturn okL) : ∀ q ∈ tb_X12_element cal, OKi G A 3 113 6344 ad0 p l e R s0 m args below meth c Q opsS ret r q.1 q.2 :=
    okc (ok_aload_n (j := 0) X (by decide +kernel) rfl rfl) (
    okc (ok_iload_n (j := 1) X (by decide +kernel) rfl rfl) (
    okc (ok_iload_n (j := 2) X (by decide +kernel) rfl rfl) (
    okc (ok_callV (ci := 12) (C := RX12) (T := TX12) (N := 63) (Y := (yX12_whyNoPlace, cX12_whyNoPlace, 3, (some .int))) X hcal opsS_n md_X12_whyNoPlace rfl (by decide) rfl wc_X12_whyNoPlace wl_X12_421 wi_X12 wm_X12_whyNoPlace wv_X12_whyNoPlace (by decide +kernel) (hRm 3 (by decide)) (by decide +kernel) rfl) (
    okc (ok_ifge (off := 9) X (by decide +kernel) (by decide) rfl) (
    okc (ok_ldc2 (i := 347) X (by decide +kernel) wk_X12_347 rfl) (
    okc (ok_goto (off := 14) X (by decide +kernel) (by decide)) (
    okc (ok_aload_n (j := 0) X (by decide +kernel) rfl rfl) (
    okc (ok_getR (ci := 12) (kf := 61) (idx := 120) (C := RX12) (T := TX12) (N := 63) X rfl (by decide) inX12 (by decide) wf_X12_120 (fun _ _ _ => rfl) (by decide +kernel) rfl) (
    okc (ok_bipush (n := 60) X (by decide +kernel) rfl rfl) (
    okc (ok_iload_n (j := 1) X (by decide +kernel) rfl rfl) (
    okc (ok_imul X (by decide +kernel) rfl) (
    okc (ok_iload_n (j := 2) X (by decide +kernel) rfl rfl) (
    okc (ok_iadd X (by decide +kernel) rfl) (
    okc (ok_lald X (by decide +kernel) rfl) (
    okc (ok_lret hret (by decide +kernel)) (
    okn))))))))))))))))
noncomputable def es_X12_element  : List (Nat × En) := [(243, en_X12_whyNoPlace)]
set_option maxRecDepth 100000 in
set_option maxHeartbeats 4000000 in
theorem eq_X12_element   (a0 : Int32) (a1 : Int32) (s : SS) : ex (tb_X12_element (calE (es_X12_element))) rL [] (fun _ _ _ _ => none) 18 0 [some (.ref 74), some (.int a0), some (.int a1)] [] s = f_X12_element a0 a1 s := by
  rfl
set_option maxRecDepth 100000 in
set_option maxHeartbeats 4000000 in
theorem run_X12_element {l : Launch} {G : Gm}   (a0 : Int32) (a1 : Int32) (s : SS) (q : (Int64 × SS)) (h : f_X12_element a0 a1 s = some q) (D' : Nat) (hD : 3 ≤ D') : RunsM l G (D' + 1) (md 245) (embS s) [.ref 74, .int a0, .int a1] (some (.long q.1)) (embS q.2) := by
  rw [md_X12_element]
  refine runs_L (plainFor_of_name (by decide +kernel)) (Nat.le_of_ble_eq_true rfl) rfl ?_
  intro A p e R s0 m args below meth c Q ad0 hR X hret
  have X : Cx G A RX12 cX12_element 3 p s0 m args c := X
  have hT := tk_X12_element X (calE_ok (es := es_X12_element) (enc (en_X12_whyNoPlace_ok _ (by omega)) (enn))) (rmD rfl hR) hret
  rw [← eq_X12_element   a0 a1 s] at h
  refine ex_good hT (fun pc' ls' st' x' hh => ?_) 18 0 _ [] s h
  cases hh

noncomputable def en_X12_element  : En := fun _ av s k => match av with
  | [.ref r0, .int a0, .int a1] => (gd (Nat.beq r0 74) (bL (f_X12_element a0 a1 s) k))
  | _ => none
set_option maxRecDepth 100000 in
set_option maxHeartbeats 4000000 in
theorem en_X12_element_ok {l : Launch} {G : Gm} (D : Nat) (hD : 4 ≤ D) : enOK l G D 245 en_X12_element := by
  intro ρ av x k r h
  unfold en_X12_element at h
  split at h
  · obtain ⟨g0, h⟩ := gd_some h
    obtain ⟨q, h1, h2⟩ := bind_of h
    have e0 := beq1 g0
    subst e0
    obtain ⟨D', rfl⟩ : ∃ D', D = D' + 1 := ⟨D - 1, by omega⟩
    exact ⟨_, _, h2, run_X12_element  _ _ _ _ h1 D' (by omega)⟩
  · cases h

/-! HatRankModel shift -/
noncomputable def tb_X12_shift (cal : Cal SS) : List (Nat × Ins SS) := [(0, e_iload 1 1), (1, e_callS cal 240 1 4), (4, e_ifeq 14 7), (7, e_iload 3 8), (8, e_callS cal 240 1 11), (11, e_ifne 16 14), (14, e_iconst (-1) 15), (15, e_iret), (16, e_aload 0 17), (17, e_getR opsS 12 59 20), (20, e_iload 1 21), (21, e_ald opsS 100 22), (22, e_iconst (-1) 23), (23, e_ceq 36 26), (26, e_aload 0 27), (27, e_getR opsS 12 59 30), (30, e_iload 3 31), (31, e_ald opsS 100 32), (32, e_iconst (-1) 33), (33, e_cne 39 36), (36, e_iconst (-11) 38), (38, e_iret), (39, e_aload 0 40), (40, e_getR opsS 12 59 43), (43, e_iload 1 44), (44, e_ald opsS 100 45), (45, e_ifge 63 48), (48, e_aload 0 49), (49, e_getR opsS 12 59 52), (52, e_iload 1 53), (53, e_ald opsS 100 54), (54, e_aload 0 55), (55, e_getR opsS 12 59 58), (58, e_iload 3 59), (59, e_ald opsS 100 60), (60, e_ceq 66 63), (63, e_iconst (-12) 65), (65, e_iret), (66, e_iload 5 68), (68, e_iflt 107 71), (71, e_iload 2 72), (72, e_iflt 107 75), (75, e_iload 4 77), (77, e_iflt 107 80), (80, e_iload 2 81), (81, e_aload 0 82), (82, e_getR opsS 12 60 85), (85, e_iload 1 86), (86, e_ald opsS 100 87), (87, e_iload 5 89), (89, e_bin aSub 90), (90, e_cgt 107 93), (93, e_iload 4 95), (95, e_aload 0 96), (96, e_getR opsS 12 60 99), (99, e_iload 3 100), (100, e_ald opsS 100 101), (101, e_iload 5 103), (103, e_bin aSub 104), (104, e_cle 110 107), (107, e_iconst (-13) 109), (109, e_iret), (110, e_iconst (0) 111), (111, e_istore 6 113), (113, e_iload 6 115), (115, e_iload 5 117), (117, e_cge 147 120), (120, e_aload 0 121), (121, e_getR opsS 12 62 124), (124, e_iload 6 126), (126, e_aload 0 127), (127, e_getR opsS 12 61 130), (130, e_iconst (60) 132), (132, e_iload 1 133), (133, e_bin aMul 134), (134, e_iload 2 135), (135, e_bin aAdd 136), (136, e_iload 6 138), (138, e_bin aAdd 139), (139, e_lald opsS 140), (140, e_last opsS 141), (141, e_iinc 6 (1) 144), (144, e_goto 113), (147, e_iconst (0) 148), (148, e_istore 6 150), (150, e_iload 6 152), (152, e_iload 5 154), (154, e_cge 185 157), (157, e_aload 0 158), (158, e_getR opsS 12 61 161), (161, e_iconst (60) 163), (163, e_iload 3 164), (164, e_bin aMul 165), (165, e_iload 4 167), (167, e_bin aAdd 168), (168, e_iload 6 170), (170, e_bin aAdd 171), (171, e_aload 0 172), (172, e_getR opsS 12 62 175), (175, e_iload 6 177), (177, e_lald opsS 178), (178, e_last opsS 179), (179, e_iinc 6 (1) 182), (182, e_goto 150), (185, e_iload 5 187), (187, e_iret)]
set_option maxRecDepth 100000 in
set_option maxHeartbeats 4000000 in
theorem tk_X12_shift {ad0 : Nat → Nat} {G : Gm} {A : Nat → Prop} {p : Program} {l : Launch} {e : Env} {R : Room} {s0 : State} {m : MethodId} {args : Array Value} {below : List Frame} {meth : Method} {c : Code} {Q : State → Prop} {ρ : Type} {ret : Option Value → SS → Option ρ} {r : ρ} (X : Cx G A RX12 cX12_shift 7 p s0 m args c) {D' : Nat} {cal : Cal SS} (hcal : calOK l G opsS D' cal) (hRm : ∀ k, k ≤ 21 → D' + 1 ≤ R.frames ∧ 8 + (k + 11) + 40 * D' ≤ R.locals) (hret : RetK G A cX12_shift 113 6344 ad0 p l e R s0 m args below meth c Q opsS ret r .ireturn okI) : ∀ q ∈ tb_X12_shift cal, OKi G A 7 113 6344 ad0 p l e R s0 m args below meth c Q opsS ret r q.1 q.2 :=
    okc (ok_iload_n (j := 1) X (by decide +kernel) rfl rfl) (
    okc (ok_callS (Y := (yX12_isShelf, cX12_isShelf, 1, (some .boolean))) X hcal opsS_n md_X12_isShelf wc_X12_isShelf wl_X12_156 wi_X12 ws_X12_isShelf (by decide +kernel) (hRm 1 (by decide)) (by decide +kernel) rfl) (
    okc (ok_ifeq (off := 10) X (by decide +kernel) (by decide) rfl) (
    okc (ok_iload_n (j := 3) X (by decide +kernel) rfl rfl) (
    okc (ok_callS (Y := (yX12_isShelf, cX12_isShelf, 1, (some .boolean))) X hcal opsS_n md_X12_isShelf wc_X12_isShelf wl_X12_156 wi_X12 ws_X12_isShelf (by decide +kernel) (hRm 1 (by decide)) (by decide +kernel) rfl) (
    okc (ok_ifne (off := 5) X (by decide +kernel) (by decide) rfl) (
    okc (ok_iconst (n := -1) X (by decide +kernel) rfl rfl) (
    okc (ok_iret hret (by decide +kernel)) (
    okc (ok_aload_n (j := 0) X (by decide +kernel) rfl rfl) (
    okc (ok_getR (ci := 12) (kf := 59) (idx := 114) (C := RX12) (T := TX12) (N := 63) X rfl (by decide) inX12 (by decide) wf_X12_114 (fun _ _ _ => rfl) (by decide +kernel) rfl) (
    okc (ok_iload_n (j := 1) X (by decide +kernel) rfl rfl) (
    okc (ok_iald X (by decide +kernel) rfl) (
    okc (ok_iconst (n := -1) X (by decide +kernel) rfl rfl) (
    okc (ok_ceq (off := 13) X (by decide +kernel) (by decide) rfl) (
    okc (ok_aload_n (j := 0) X (by decide +kernel) rfl rfl) (
    okc (ok_getR (ci := 12) (kf := 59) (idx := 114) (C := RX12) (T := TX12) (N := 63) X rfl (by decide) inX12 (by decide) wf_X12_114 (fun _ _ _ => rfl) (by decide +kernel) rfl) (
    okc (ok_iload_n (j := 3) X (by decide +kernel) rfl rfl) (
    okc (ok_iald X (by decide +kernel) rfl) (
    okc (ok_iconst (n := -1) X (by decide +kernel) rfl rfl) (
    okc (ok_cne (off := 6) X (by decide +kernel) (by decide) rfl) (
    okc (ok_bipush (n := -11) X (by decide +kernel) rfl rfl) (
    okc (ok_iret hret (by decide +kernel)) (
    okc (ok_aload_n (j := 0) X (by decide +kernel) rfl rfl) (
    okc (ok_getR (ci := 12) (kf := 59) (idx := 114) (C := RX12) (T := TX12) (N := 63) X rfl (by decide) inX12 (by decide) wf_X12_114 (fun _ _ _ => rfl) (by decide +kernel) rfl) (
    okc (ok_iload_n (j := 1) X (by decide +kernel) rfl rfl) (
    okc (ok_iald X (by decide +kernel) rfl) (
    okc (ok_ifge (off := 18) X (by decide +kernel) (by decide) rfl) (
    okc (ok_aload_n (j := 0) X (by decide +kernel) rfl rfl) (
    okc (ok_getR (ci := 12) (kf := 59) (idx := 114) (C := RX12) (T := TX12) (N := 63) X rfl (by decide) inX12 (by decide) wf_X12_114 (fun _ _ _ => rfl) (by decide +kernel) rfl) (
    okc (ok_iload_n (j := 1) X (by decide +kernel) rfl rfl) (
    okc (ok_iald X (by decide +kernel) rfl) (
    okc (ok_aload_n (j := 0) X (by decide +kernel) rfl rfl) (
    okc (ok_getR (ci := 12) (kf := 59) (idx := 114) (C := RX12) (T := TX12) (N := 63) X rfl (by decide) inX12 (by decide) wf_X12_114 (fun _ _ _ => rfl) (by decide +kernel) rfl) (
    okc (ok_iload_n (j := 3) X (by decide +kernel) rfl rfl) (
    okc (ok_iald X (by decide +kernel) rfl) (
    okc (ok_ceq (off := 6) X (by decide +kernel) (by decide) rfl) (
    okc (ok_bipush (n := -12) X (by decide +kernel) rfl rfl) (
    okc (ok_iret hret (by decide +kernel)) (
    okc (ok_iload X (by decide +kernel) rfl) (
    okc (ok_iflt (off := 39) X (by decide +kernel) (by decide) rfl) (
    okc (ok_iload_n (j := 2) X (by decide +kernel) rfl rfl) (
    okc (ok_iflt (off := 35) X (by decide +kernel) (by decide) rfl) (
    okc (ok_iload X (by decide +kernel) rfl) (
    okc (ok_iflt (off := 30) X (by decide +kernel) (by decide) rfl) (
    okc (ok_iload_n (j := 2) X (by decide +kernel) rfl rfl) (
    okc (ok_aload_n (j := 0) X (by decide +kernel) rfl rfl) (
    okc (ok_getR (ci := 12) (kf := 60) (idx := 117) (C := RX12) (T := TX12) (N := 63) X rfl (by decide) inX12 (by decide) wf_X12_117 (fun _ _ _ => rfl) (by decide +kernel) rfl) (
    okc (ok_iload_n (j := 1) X (by decide +kernel) rfl rfl) (
    okc (ok_iald X (by decide +kernel) rfl) (
    okc (ok_iload X (by decide +kernel) rfl) (
    okc (ok_isub X (by decide +kernel) rfl) (
    okc (ok_cgt (off := 17) X (by decide +kernel) (by decide) rfl) (
    okc (ok_iload X (by decide +kernel) rfl) (
    okc (ok_aload_n (j := 0) X (by decide +kernel) rfl rfl) (
    okc (ok_getR (ci := 12) (kf := 60) (idx := 117) (C := RX12) (T := TX12) (N := 63) X rfl (by decide) inX12 (by decide) wf_X12_117 (fun _ _ _ => rfl) (by decide +kernel) rfl) (
    okc (ok_iload_n (j := 3) X (by decide +kernel) rfl rfl) (
    okc (ok_iald X (by decide +kernel) rfl) (
    okc (ok_iload X (by decide +kernel) rfl) (
    okc (ok_isub X (by decide +kernel) rfl) (
    okc (ok_cle (off := 6) X (by decide +kernel) (by decide) rfl) (
    okc (ok_bipush (n := -13) X (by decide +kernel) rfl rfl) (
    okc (ok_iret hret (by decide +kernel)) (
    okc (ok_iconst (n := 0) X (by decide +kernel) rfl rfl) (
    okc (ok_istore X (by decide +kernel) rfl) (
    okc (ok_iload X (by decide +kernel) rfl) (
    okc (ok_iload X (by decide +kernel) rfl) (
    okc (ok_cge (off := 30) X (by decide +kernel) (by decide) rfl) (
    okc (ok_aload_n (j := 0) X (by decide +kernel) rfl rfl) (
    okc (ok_getR (ci := 12) (kf := 62) (idx := 124) (C := RX12) (T := TX12) (N := 63) X rfl (by decide) inX12 (by decide) wf_X12_124 (fun _ _ _ => rfl) (by decide +kernel) rfl) (
    okc (ok_iload X (by decide +kernel) rfl) (
    okc (ok_aload_n (j := 0) X (by decide +kernel) rfl rfl) (
    okc (ok_getR (ci := 12) (kf := 61) (idx := 120) (C := RX12) (T := TX12) (N := 63) X rfl (by decide) inX12 (by decide) wf_X12_120 (fun _ _ _ => rfl) (by decide +kernel) rfl) (
    okc (ok_bipush (n := 60) X (by decide +kernel) rfl rfl) (
    okc (ok_iload_n (j := 1) X (by decide +kernel) rfl rfl) (
    okc (ok_imul X (by decide +kernel) rfl) (
    okc (ok_iload_n (j := 2) X (by decide +kernel) rfl rfl) (
    okc (ok_iadd X (by decide +kernel) rfl) (
    okc (ok_iload X (by decide +kernel) rfl) (
    okc (ok_iadd X (by decide +kernel) rfl) (
    okc (ok_lald X (by decide +kernel) rfl) (
    okc (ok_last X opsS_ok (by decide +kernel) rfl) (
    okc (ok_iinc (n := 1) X (by decide +kernel) rfl rfl) (
    okc (ok_goto (off := -31) X (by decide +kernel) (by decide)) (
    okc (ok_iconst (n := 0) X (by decide +kernel) rfl rfl) (
    okc (ok_istore X (by decide +kernel) rfl) (
    okc (ok_iload X (by decide +kernel) rfl) (
    okc (ok_iload X (by decide +kernel) rfl) (
    okc (ok_cge (off := 31) X (by decide +kernel) (by decide) rfl) (
    okc (ok_aload_n (j := 0) X (by decide +kernel) rfl rfl) (
    okc (ok_getR (ci := 12) (kf := 61) (idx := 120) (C := RX12) (T := TX12) (N := 63) X rfl (by decide) inX12 (by decide) wf_X12_120 (fun _ _ _ => rfl) (by decide +kernel) rfl) (
    okc (ok_bipush (n := 60) X (by decide +kernel) rfl rfl) (
    okc (ok_iload_n (j := 3) X (by decide +kernel) rfl rfl) (
    okc (ok_imul X (by decide +kernel) rfl) (
    okc (ok_iload X (by decide +kernel) rfl) (
    okc (ok_iadd X (by decide +kernel) rfl) (
    okc (ok_iload X (by decide +kernel) rfl) (
    okc (ok_iadd X (by decide +kernel) rfl) (
    okc (ok_aload_n (j := 0) X (by decide +kernel) rfl rfl) (
    okc (ok_getR (ci := 12) (kf := 62) (idx := 124) (C := RX12) (T := TX12) (N := 63) X rfl (by decide) inX12 (by decide) wf_X12_124 (fun _ _ _ => rfl) (by decide +kernel) rfl) (
    okc (ok_iload X (by decide +kernel) rfl) (
    okc (ok_lald X (by decide +kernel) rfl) (
    okc (ok_last X opsS_ok (by decide +kernel) rfl) (
    okc (ok_iinc (n := 1) X (by decide +kernel) rfl rfl) (
    okc (ok_goto (off := -32) X (by decide +kernel) (by decide)) (
    okc (ok_iload X (by decide +kernel) rfl) (
    okc (ok_iret hret (by decide +kernel)) (
    okn))))))))))))))))))))))))))))))))))))))))))))))))))))))))))))))))))))))))))))))))))))))))))))))))))))))))))
noncomputable def es_X12_shift  : List (Nat × En) := [(240, en_X12_isShelf)]
noncomputable def ka_X12_shift_150   (n : Nat) : Kn SS (Int32 × SS) := fun pc ls st s => bif Nat.beq pc 150 then (match ls, st with
    | [some y0, _, _, some (.int x3), some (.int x4), some (.int x5), some (.int x6)], [] => (gd (veq y0 (.ref 74)) (F_X12_shift_150 n x3 x4 x5 x6 s))
    | _, _ => none) else (none)
set_option maxRecDepth 100000 in
set_option maxHeartbeats 4000000 in
theorem eq_X12_shift_150    (n : Nat) (x3 : Int32) (x4 : Int32) (x5 : Int32) (x6 : Int32) (s : SS) : ex (tb_X12_shift (calE (es_X12_shift))) rI [113, 150] (ka_X12_shift_150   n) 108 150 [some (.ref 74), none, none, some (.int x3), some (.int x4), some (.int x5), some (.int x6)] [] s = F_X12_shift_150   (n + 1) x3 x4 x5 x6 s := by
  rfl
noncomputable def ka_X12_shift_113   (n : Nat) : Kn SS (Int32 × SS) := fun pc ls st s => bif Nat.beq pc 113 then (match ls, st with
    | [some y0, some (.int x1), some (.int x2), some (.int x3), some (.int x4), some (.int x5), some (.int x6)], [] => (gd (veq y0 (.ref 74)) (F_X12_shift_113 n x1 x2 x3 x4 x5 x6 s))
    | _, _ => none) else (bif Nat.beq pc 150 then (match ls, st with
    | [some y0, _, _, some (.int x3), some (.int x4), some (.int x5), some (.int x6)], [] => (gd (veq y0 (.ref 74)) (F_X12_shift_150 fuel0 x3 x4 x5 x6 s))
    | _, _ => none) else (none))
set_option maxRecDepth 100000 in
set_option maxHeartbeats 4000000 in
theorem eq_X12_shift_113    (n : Nat) (x1 : Int32) (x2 : Int32) (x3 : Int32) (x4 : Int32) (x5 : Int32) (x6 : Int32) (s : SS) : ex (tb_X12_shift (calE (es_X12_shift))) rI [113, 150] (ka_X12_shift_113   n) 108 113 [some (.ref 74), some (.int x1), some (.int x2), some (.int x3), some (.int x4), some (.int x5), some (.int x6)] [] s = F_X12_shift_113   (n + 1) x1 x2 x3 x4 x5 x6 s := by
  rfl
set_option maxRecDepth 100000 in
set_option maxHeartbeats 4000000 in
theorem gd_X12_shift_150 {ad0 : Nat → Nat} {G : Gm} {A : Nat → Prop} {p : Program} {l : Launch} {e : Env} {R : Room} {s0 : State} {m : MethodId} {args : Array Value} {below : List Frame} {meth : Method} {c : Code} {Q : State → Prop} {r : (Int32 × SS)}   (hT : ∀ q ∈ tb_X12_shift (calE (es_X12_shift)), OKi G A 7 113 6344 ad0 p l e R s0 m args below meth c Q opsS rI r q.1 q.2)   : ∀ (n : Nat) (x3 : Int32) (x4 : Int32) (x5 : Int32) (x6 : Int32) (s : SS), F_X12_shift_150   n x3 x4 x5 x6 s = some r → Gd G A 7 113 6344 ad0 p l e R s0 m args below meth c Q opsS 150 [some (.ref 74), none, none, some (.int x3), some (.int x4), some (.int x5), some (.int x6)] [] s := by
  intro n
  induction n with
  | zero =>
    intro x3 x4 x5 x6 s hh
    exact absurd (show (none : Option (Int32 × SS)) = some r from hh) (by simp)
  | succ n ih =>
    intro x3 x4 x5 x6 s hh
    rw [← eq_X12_shift_150    n x3 x4 x5 x6 s] at hh
    refine ex_good hT (fun pc' ls' st' x' hh => ?_) 108 150 _ [] s hh
    unfold ka_X12_shift_150 at hh
    cases hb : Nat.beq pc' 150 with
    | true =>
      rw [hb] at hh
      have e9 := beq1 hb
      subst e9
      simp only [cond_true] at hh
      split at hh
      · obtain ⟨g0, hh1⟩ := gd_some hh
        have e0 := veq_of g0
        subst e0
        exact Gd.wk (ih _ _ _ _ _ hh1) (Lle.eq (Lle.no (Lle.no (Lle.eq (Lle.eq (Lle.eq (Lle.eq Lle.nil)))))))
      · cases hh
    | false =>
      rw [hb] at hh
      simp only [cond_false] at hh
      cases hh

set_option maxRecDepth 100000 in
set_option maxHeartbeats 4000000 in
theorem gd_X12_shift_113 {ad0 : Nat → Nat} {G : Gm} {A : Nat → Prop} {p : Program} {l : Launch} {e : Env} {R : Room} {s0 : State} {m : MethodId} {args : Array Value} {below : List Frame} {meth : Method} {c : Code} {Q : State → Prop} {r : (Int32 × SS)}   (hT : ∀ q ∈ tb_X12_shift (calE (es_X12_shift)), OKi G A 7 113 6344 ad0 p l e R s0 m args below meth c Q opsS rI r q.1 q.2)   : ∀ (n : Nat) (x1 : Int32) (x2 : Int32) (x3 : Int32) (x4 : Int32) (x5 : Int32) (x6 : Int32) (s : SS), F_X12_shift_113   n x1 x2 x3 x4 x5 x6 s = some r → Gd G A 7 113 6344 ad0 p l e R s0 m args below meth c Q opsS 113 [some (.ref 74), some (.int x1), some (.int x2), some (.int x3), some (.int x4), some (.int x5), some (.int x6)] [] s := by
  intro n
  induction n with
  | zero =>
    intro x1 x2 x3 x4 x5 x6 s hh
    exact absurd (show (none : Option (Int32 × SS)) = some r from hh) (by simp)
  | succ n ih =>
    intro x1 x2 x3 x4 x5 x6 s hh
    rw [← eq_X12_shift_113    n x1 x2 x3 x4 x5 x6 s] at hh
    refine ex_good hT (fun pc' ls' st' x' hh => ?_) 108 113 _ [] s hh
    unfold ka_X12_shift_113 at hh
    cases hb : Nat.beq pc' 113 with
    | true =>
      rw [hb] at hh
      have e9 := beq1 hb
      subst e9
      simp only [cond_true] at hh
      split at hh
      · obtain ⟨g0, hh1⟩ := gd_some hh
        have e0 := veq_of g0
        subst e0
        exact Gd.wk (ih _ _ _ _ _ _ _ hh1) (Lle.eq (Lle.eq (Lle.eq (Lle.eq (Lle.eq (Lle.eq (Lle.eq Lle.nil)))))))
      · cases hh
    | false =>
      rw [hb] at hh
      simp only [cond_false] at hh
      cases hb : Nat.beq pc' 150 with
      | true =>
        rw [hb] at hh
        have e9 := beq1 hb
        subst e9
        simp only [cond_true] at hh
        split at hh
        · obtain ⟨g0, hh1⟩ := gd_some hh
          have e0 := veq_of g0
          subst e0
          exact Gd.wk (gd_X12_shift_150 hT   _ _ _ _ _ _ hh1) (Lle.eq (Lle.no (Lle.no (Lle.eq (Lle.eq (Lle.eq (Lle.eq Lle.nil)))))))
        · cases hh
      | false =>
        rw [hb] at hh
        simp only [cond_false] at hh
        cases hh

noncomputable def ka_X12_shift  : Kn SS (Int32 × SS) := fun pc ls st s => bif Nat.beq pc 113 then (match ls, st with
    | [some y0, some (.int x1), some (.int x2), some (.int x3), some (.int x4), some (.int x5), some (.int x6)], [] => (gd (veq y0 (.ref 74)) (F_X12_shift_113 fuel0 x1 x2 x3 x4 x5 x6 s))
    | _, _ => none) else (none)
set_option maxRecDepth 100000 in
set_option maxHeartbeats 4000000 in
theorem eq_X12_shift   (a0 : Int32) (a1 : Int32) (a2 : Int32) (a3 : Int32) (a4 : Int32) (s : SS) : ex (tb_X12_shift (calE (es_X12_shift))) rI [113, 150] (ka_X12_shift ) 108 0 [some (.ref 74), some (.int a0), some (.int a1), some (.int a2), some (.int a3), some (.int a4), none] [] s = f_X12_shift a0 a1 a2 a3 a4 s := by
  rfl
set_option maxRecDepth 100000 in
set_option maxHeartbeats 4000000 in
theorem run_X12_shift {l : Launch} {G : Gm}   (a0 : Int32) (a1 : Int32) (a2 : Int32) (a3 : Int32) (a4 : Int32) (s : SS) (q : (Int32 × SS)) (h : f_X12_shift a0 a1 a2 a3 a4 s = some q) (D' : Nat) (hD : 2 ≤ D') : RunsM l G (D' + 1) (md 246) (embS s) [.ref 74, .int a0, .int a1, .int a2, .int a3, .int a4] (some (.int q.1)) (embS q.2) := by
  rw [md_X12_shift]
  refine runs_I (plainFor_of_name (by decide +kernel)) (Nat.le_of_ble_eq_true rfl) rfl ?_
  intro A p e R s0 m args below meth c Q ad0 hR X hret
  have X : Cx G A RX12 cX12_shift 7 p s0 m args c := X
  have hT := tk_X12_shift X (calE_ok (es := es_X12_shift) (enc (en_X12_isShelf_ok _ (by omega)) (enn))) (rmD rfl hR) hret
  rw [← eq_X12_shift   a0 a1 a2 a3 a4 s] at h
  refine ex_good hT (fun pc' ls' st' x' hh => ?_) 108 0 _ [] s h
  unfold ka_X12_shift at hh
  cases hb : Nat.beq pc' 113 with
  | true =>
    rw [hb] at hh
    have e9 := beq1 hb
    subst e9
    simp only [cond_true] at hh
    split at hh
    · obtain ⟨g0, hh1⟩ := gd_some hh
      have e0 := veq_of g0
      subst e0
      exact Gd.wk (gd_X12_shift_113 hT  _ _ _ _ _ _ _ _ hh1) (Lle.eq (Lle.eq (Lle.eq (Lle.eq (Lle.eq (Lle.eq (Lle.eq Lle.nil)))))))
    · cases hh
  | false =>
    rw [hb] at hh
    simp only [cond_false] at hh
    cases hh

noncomputable def en_X12_shift  : En := fun _ av s k => match av with
  | [.ref r0, .int a0, .int a1, .int a2, .int a3, .int a4] => (gd (Nat.beq r0 74) (bI (f_X12_shift a0 a1 a2 a3 a4 s) k))
  | _ => none
set_option maxRecDepth 100000 in
set_option maxHeartbeats 4000000 in
theorem en_X12_shift_ok {l : Launch} {G : Gm} (D : Nat) (hD : 3 ≤ D) : enOK l G D 246 en_X12_shift := by
  intro ρ av x k r h
  unfold en_X12_shift at h
  split at h
  · obtain ⟨g0, h⟩ := gd_some h
    obtain ⟨q, h1, h2⟩ := bind_of h
    have e0 := beq1 g0
    subst e0
    obtain ⟨D', rfl⟩ : ∃ D', D = D' + 1 := ⟨D - 1, by omega⟩
    exact ⟨_, _, h2, run_X12_shift  _ _ _ _ _ _ _ h1 D' (by omega)⟩
  · cases h

/-! HatRankModel taken -/
noncomputable def tb_X12_taken (cal : Cal SS) : List (Nat × Ins SS) := [(0, e_iload 1 1), (1, e_callS cal 240 1 4), (4, e_ifeq 17 7), (7, e_iload 2 8), (8, e_iconst (0) 9), (9, e_iconst (7) 11), (11, e_callS cal 149 3 14), (14, e_ifne 19 17), (17, e_iconst (-1) 18), (18, e_iret), (19, e_aload 0 20), (20, e_getR opsS 12 59 23), (23, e_iload 1 24), (24, e_ald opsS 100 25), (25, e_iconst (-1) 26), (26, e_cne 32 29), (29, e_iconst (-11) 31), (31, e_iret), (32, e_aload 0 33), (33, e_getR opsS 12 59 36), (36, e_iload 1 37), (37, e_ald opsS 100 38), (38, e_iflt 73 41), (41, e_aload 0 42), (42, e_getR opsS 12 56 45), (45, e_aload 0 46), (46, e_getR opsS 12 59 49), (49, e_iload 1 50), (50, e_ald opsS 100 51), (51, e_ald opsS 100 52), (52, e_iload 2 53), (53, e_callS cal 226 2 56), (56, e_ifeq 73 59), (59, e_aload 0 60), (60, e_getR opsS 12 56 63), (63, e_aload 0 64), (64, e_getR opsS 12 59 67), (67, e_iload 1 68), (68, e_ald opsS 100 69), (69, e_ald opsS 100 70), (70, e_goto 75), (73, e_iconst (-12) 75), (75, e_iret)]
set_option maxRecDepth 100000 in
set_option maxHeartbeats 4000000 in
theorem tk_X12_taken {ad0 : Nat → Nat} {G : Gm} {A : Nat → Prop} {p : Program} {l : Launch} {e : Env} {R : Room} {s0 : State} {m : MethodId} {args : Array Value} {below : List Frame} {meth : Method} {c : Code} {Q : State → Prop} {ρ : Type} {ret : Option Value → SS → Option ρ} {r : ρ} (X : Cx G A RX12 cX12_taken 3 p s0 m args c) {D' : Nat} {cal : Cal SS} (hcal : calOK l G opsS D' cal) (hRm : ∀ k, k ≤ 21 → D' + 1 ≤ R.frames ∧ 8 + (k + 11) + 40 * D' ≤ R.locals) (hret : RetK G A cX12_taken 113 6344 ad0 p l e R s0 m args below meth c Q opsS ret r .ireturn okI) : ∀ q ∈ tb_X12_taken cal, OKi G A 3 113 6344 ad0 p l e R s0 m args below meth c Q opsS ret r q.1 q.2 :=
    okc (ok_iload_n (j := 1) X (by decide +kernel) rfl rfl) (
    okc (ok_callS (Y := (yX12_isShelf, cX12_isShelf, 1, (some .boolean))) X hcal opsS_n md_X12_isShelf wc_X12_isShelf wl_X12_156 wi_X12 ws_X12_isShelf (by decide +kernel) (hRm 1 (by decide)) (by decide +kernel) rfl) (
    okc (ok_ifeq (off := 13) X (by decide +kernel) (by decide) rfl) (
    okc (ok_iload_n (j := 2) X (by decide +kernel) rfl rfl) (
    okc (ok_iconst (n := 0) X (by decide +kernel) rfl rfl) (
    okc (ok_bipush (n := 7) X (by decide +kernel) rfl rfl) (
    okc (ok_callS (Y := (yX12_in, cX12_in, 3, (some .boolean))) X hcal opsS_n md_X12_in wc_X12_in wl_X12_134 wi_X12 ws_X12_in (by decide +kernel) (hRm 3 (by decide)) (by decide +kernel) rfl) (
    okc (ok_ifne (off := 5) X (by decide +kernel) (by decide) rfl) (
    okc (ok_iconst (n := -1) X (by decide +kernel) rfl rfl) (
    okc (ok_iret hret (by decide +kernel)) (
    okc (ok_aload_n (j := 0) X (by decide +kernel) rfl rfl) (
    okc (ok_getR (ci := 12) (kf := 59) (idx := 114) (C := RX12) (T := TX12) (N := 63) X rfl (by decide) inX12 (by decide) wf_X12_114 (fun _ _ _ => rfl) (by decide +kernel) rfl) (
    okc (ok_iload_n (j := 1) X (by decide +kernel) rfl rfl) (
    okc (ok_iald X (by decide +kernel) rfl) (
    okc (ok_iconst (n := -1) X (by decide +kernel) rfl rfl) (
    okc (ok_cne (off := 6) X (by decide +kernel) (by decide) rfl) (
    okc (ok_bipush (n := -11) X (by decide +kernel) rfl rfl) (
    okc (ok_iret hret (by decide +kernel)) (
    okc (ok_aload_n (j := 0) X (by decide +kernel) rfl rfl) (
    okc (ok_getR (ci := 12) (kf := 59) (idx := 114) (C := RX12) (T := TX12) (N := 63) X rfl (by decide) inX12 (by decide) wf_X12_114 (fun _ _ _ => rfl) (by decide +kernel) rfl) (
    okc (ok_iload_n (j := 1) X (by decide +kernel) rfl rfl) (
    okc (ok_iald X (by decide +kernel) rfl) (
    okc (ok_iflt (off := 35) X (by decide +kernel) (by decide) rfl) (
    okc (ok_aload_n (j := 0) X (by decide +kernel) rfl rfl) (
    okc (ok_getR (ci := 12) (kf := 56) (idx := 108) (C := RX12) (T := TX12) (N := 63) X rfl (by decide) inX12 (by decide) wf_X12_108 (fun _ _ _ => rfl) (by decide +kernel) rfl) (
    okc (ok_aload_n (j := 0) X (by decide +kernel) rfl rfl) (
    okc (ok_getR (ci := 12) (kf := 59) (idx := 114) (C := RX12) (T := TX12) (N := 63) X rfl (by decide) inX12 (by decide) wf_X12_114 (fun _ _ _ => rfl) (by decide +kernel) rfl) (
    okc (ok_iload_n (j := 1) X (by decide +kernel) rfl rfl) (
    okc (ok_iald X (by decide +kernel) rfl) (
    okc (ok_iald X (by decide +kernel) rfl) (
    okc (ok_iload_n (j := 2) X (by decide +kernel) rfl rfl) (
    okc (ok_callS (Y := (yX12_isUnder, cX12_isUnder, 2, (some .boolean))) X hcal opsS_n md_X12_isUnder wc_X12_isUnder wl_X12_385 wi_X12 ws_X12_isUnder (by decide +kernel) (hRm 2 (by decide)) (by decide +kernel) rfl) (
    okc (ok_ifeq (off := 17) X (by decide +kernel) (by decide) rfl) (
    okc (ok_aload_n (j := 0) X (by decide +kernel) rfl rfl) (
    okc (ok_getR (ci := 12) (kf := 56) (idx := 108) (C := RX12) (T := TX12) (N := 63) X rfl (by decide) inX12 (by decide) wf_X12_108 (fun _ _ _ => rfl) (by decide +kernel) rfl) (
    okc (ok_aload_n (j := 0) X (by decide +kernel) rfl rfl) (
    okc (ok_getR (ci := 12) (kf := 59) (idx := 114) (C := RX12) (T := TX12) (N := 63) X rfl (by decide) inX12 (by decide) wf_X12_114 (fun _ _ _ => rfl) (by decide +kernel) rfl) (
    okc (ok_iload_n (j := 1) X (by decide +kernel) rfl rfl) (
    okc (ok_iald X (by decide +kernel) rfl) (
    okc (ok_iald X (by decide +kernel) rfl) (
    okc (ok_goto (off := 5) X (by decide +kernel) (by decide)) (
    okc (ok_bipush (n := -12) X (by decide +kernel) rfl rfl) (
    okc (ok_iret hret (by decide +kernel)) (
    okn)))))))))))))))))))))))))))))))))))))))))))
noncomputable def es_X12_taken  : List (Nat × En) := [(240, en_X12_isShelf), (149, en_X12_in), (226, en_X12_isUnder)]
set_option maxRecDepth 100000 in
set_option maxHeartbeats 4000000 in
theorem eq_X12_taken   (a0 : Int32) (a1 : Int32) (s : SS) : ex (tb_X12_taken (calE (es_X12_taken))) rI [] (fun _ _ _ _ => none) 45 0 [some (.ref 74), some (.int a0), some (.int a1)] [] s = f_X12_taken a0 a1 s := by
  rfl
set_option maxRecDepth 100000 in
set_option maxHeartbeats 4000000 in
theorem run_X12_taken {l : Launch} {G : Gm}   (a0 : Int32) (a1 : Int32) (s : SS) (q : (Int32 × SS)) (h : f_X12_taken a0 a1 s = some q) (D' : Nat) (hD : 2 ≤ D') : RunsM l G (D' + 1) (md 247) (embS s) [.ref 74, .int a0, .int a1] (some (.int q.1)) (embS q.2) := by
  rw [md_X12_taken]
  refine runs_I (plainFor_of_name (by decide +kernel)) (Nat.le_of_ble_eq_true rfl) rfl ?_
  intro A p e R s0 m args below meth c Q ad0 hR X hret
  have X : Cx G A RX12 cX12_taken 3 p s0 m args c := X
  have hT := tk_X12_taken X (calE_ok (es := es_X12_taken) (enc (en_X12_isShelf_ok _ (by omega)) (enc (en_X12_in_ok _ (by omega)) (enc (en_X12_isUnder_ok _ (by omega)) (enn))))) (rmD rfl hR) hret
  rw [← eq_X12_taken   a0 a1 s] at h
  refine ex_good hT (fun pc' ls' st' x' hh => ?_) 45 0 _ [] s h
  cases hh

noncomputable def en_X12_taken  : En := fun _ av s k => match av with
  | [.ref r0, .int a0, .int a1] => (gd (Nat.beq r0 74) (bI (f_X12_taken a0 a1 s) k))
  | _ => none
set_option maxRecDepth 100000 in
set_option maxHeartbeats 4000000 in
theorem en_X12_taken_ok {l : Launch} {G : Gm} (D : Nat) (hD : 3 ≤ D) : enOK l G D 247 en_X12_taken := by
  intro ρ av x k r h
  unfold en_X12_taken at h
  split at h
  · obtain ⟨g0, h⟩ := gd_some h
    obtain ⟨q, h1, h2⟩ := bind_of h
    have e0 := beq1 g0
    subst e0
    obtain ⟨D', rfl⟩ : ∃ D', D = D' + 1 := ⟨D - 1, by omega⟩
    exact ⟨_, _, h2, run_X12_taken  _ _ _ _ h1 D' (by omega)⟩
  · cases h

