/-! HatRankModel mean -/
noncomputable def tb_X12_mean (cal : Cal SS) : List (Nat × Ins SS) := [(0, e_aload 0 1), (1, e_iload 1 2), (2, e_callV opsS cal 151 1 12 5), (5, e_ifeq 26 8), (8, e_iload 2 9), (9, e_iconst (0) 10), (10, e_iconst (2) 11), (11, e_callS cal 149 3 14), (14, e_ifeq 26 17), (17, e_iload 3 18), (18, e_iconst (0) 19), (19, e_iconst (1) 20), (20, e_callS cal 149 3 23), (23, e_ifne 30 26), (26, e_lconst (-9223372036854775808) 29), (29, e_lret), (30, e_aload 0 31), (31, e_getI opsS 12 1 34), (34, e_iload 2 35), (35, e_bin aAdd 36), (36, e_iconst (24) 38), (38, e_cle 45 41), (41, e_lconst (-5) 44), (44, e_lret), (45, e_aload 0 46), (46, e_iload 1 47), (47, e_iload 2 48), (48, e_aload 0 49), (49, e_getR opsS 12 14 52), (52, e_iload 1 53), (53, e_ald opsS 100 54), (54, e_callV opsS cal 208 3 12 57), (57, e_aload 0 58), (58, e_aload 0 59), (59, e_getL opsS 12 47 62), (62, e_iload 2 63), (63, e_iload 3 64), (64, e_callV opsS cal 211 3 12 67), (67, e_lret)]
set_option maxRecDepth 100000 in
set_option maxHeartbeats 4000000 in
theorem tk_X12_mean {ad0 : Nat → Nat} {G : Gm} {A : Nat → Prop} {p : Program} {l : Launch} {e : Env} {R : Room} {s0 : State} {m : MethodId} {args : Array Value} {below : List Frame} {meth : Method} {c : Code} {Q : State → Prop} {ρ : Type} {ret : Option Value → SS → Option ρ} {r : ρ} (X : Cx G A RX12 cX12_mean 4 p s0 m args c) {D' : Nat} {cal : Cal SS} (hcal : calOK l G opsS D' cal) (hRm : ∀ k, k ≤ 21 → D' + 1 ≤ R.frames ∧ 8 + (k + 11) + 40 * D' ≤ R.locals) (hret : RetK G A cX12_mean 113 6344 ad0 p l e R s0 m args below meth c Q opsS ret r .lreturn okL) : ∀ q ∈ tb_X12_mean cal, OKi G A 4 113 6344 ad0 p l e R s0 m args below meth c Q opsS ret r q.1 q.2 :=
    okc (ok_aload_n (j := 0) X (by decide +kernel) rfl rfl) (
    okc (ok_iload_n (j := 1) X (by decide +kernel) rfl rfl) (
    okc (ok_callV (ci := 12) (C := RX12) (T := TX12) (N := 63) (Y := (yX12_isPerson, cX12_isPerson, 2, (some .boolean))) X hcal opsS_n md_X12_isPerson rfl (by decide) rfl wc_X12_isPerson wl_X12_175 wi_X12 wm_X12_isPerson wv_X12_isPerson (by decide +kernel) (hRm 2 (by decide)) (by decide +kernel) rfl) (
    okc (ok_ifeq (off := 21) X (by decide +kernel) (by decide) rfl) (
    okc (ok_iload_n (j := 2) X (by decide +kernel) rfl rfl) (
    okc (ok_iconst (n := 0) X (by decide +kernel) rfl rfl) (
    okc (ok_iconst (n := 2) X (by decide +kernel) rfl rfl) (
    okc (ok_callS (Y := (yX12_in, cX12_in, 3, (some .boolean))) X hcal opsS_n md_X12_in wc_X12_in wl_X12_134 wi_X12 ws_X12_in (by decide +kernel) (hRm 3 (by decide)) (by decide +kernel) rfl) (
    okc (ok_ifeq (off := 12) X (by decide +kernel) (by decide) rfl) (
    okc (ok_iload_n (j := 3) X (by decide +kernel) rfl rfl) (
    okc (ok_iconst (n := 0) X (by decide +kernel) rfl rfl) (
    okc (ok_iconst (n := 1) X (by decide +kernel) rfl rfl) (
    okc (ok_callS (Y := (yX12_in, cX12_in, 3, (some .boolean))) X hcal opsS_n md_X12_in wc_X12_in wl_X12_134 wi_X12 ws_X12_in (by decide +kernel) (hRm 3 (by decide)) (by decide +kernel) rfl) (
    okc (ok_ifne (off := 7) X (by decide +kernel) (by decide) rfl) (
    okc (ok_ldc2 (i := 347) X (by decide +kernel) wk_X12_347 rfl) (
    okc (ok_lret hret (by decide +kernel)) (
    okc (ok_aload_n (j := 0) X (by decide +kernel) rfl rfl) (
    okc (ok_getI (ci := 12) (kf := 1) (idx := 272) (C := RX12) (T := TX12) (N := 63) X rfl (by decide) inX12 (by decide) wf_X12_272 (fun _ _ _ => rfl) (by decide +kernel) rfl) (
    okc (ok_iload_n (j := 2) X (by decide +kernel) rfl rfl) (
    okc (ok_iadd X (by decide +kernel) rfl) (
    okc (ok_bipush (n := 24) X (by decide +kernel) rfl rfl) (
    okc (ok_cle (off := 7) X (by decide +kernel) (by decide) rfl) (
    okc (ok_ldc2 (i := 349) X (by decide +kernel) wk_X12_349 rfl) (
    okc (ok_lret hret (by decide +kernel)) (
    okc (ok_aload_n (j := 0) X (by decide +kernel) rfl rfl) (
    okc (ok_iload_n (j := 1) X (by decide +kernel) rfl rfl) (
    okc (ok_iload_n (j := 2) X (by decide +kernel) rfl rfl) (
    okc (ok_aload_n (j := 0) X (by decide +kernel) rfl rfl) (
    okc (ok_getR (ci := 12) (kf := 14) (idx := 34) (C := RX12) (T := TX12) (N := 63) X rfl (by decide) inX12 (by decide) wf_X12_34 (fun _ _ _ => rfl) (by decide +kernel) rfl) (
    okc (ok_iload_n (j := 1) X (by decide +kernel) rfl rfl) (
    okc (ok_iald X (by decide +kernel) rfl) (
    okc (ok_callV (ci := 12) (C := RX12) (T := TX12) (N := 63) (Y := (yX12_findChance, cX12_findChance, 4, none)) X hcal opsS_n md_X12_findChance rfl (by decide) rfl wc_X12_findChance wl_X12_351 wi_X12 wm_X12_findChance wv_X12_findChance (by decide +kernel) (hRm 4 (by decide)) (by decide +kernel) rfl) (
    okc (ok_aload_n (j := 0) X (by decide +kernel) rfl rfl) (
    okc (ok_aload_n (j := 0) X (by decide +kernel) rfl rfl) (
    okc (ok_getL (ci := 12) (kf := 47) (idx := 322) (C := RX12) (T := TX12) (N := 63) X rfl (by decide) inX12 (by decide) wf_X12_322 (fun _ _ _ => rfl) (by decide +kernel) rfl) (
    okc (ok_iload_n (j := 2) X (by decide +kernel) rfl rfl) (
    okc (ok_iload_n (j := 3) X (by decide +kernel) rfl rfl) (
    okc (ok_callV (ci := 12) (C := RX12) (T := TX12) (N := 63) (Y := (yX12_asPart, cX12_asPart, 7, (some .long))) X hcal opsS_n md_X12_asPart rfl (by decide) rfl wc_X12_asPart wl_X12_354 wi_X12 wm_X12_asPart wv_X12_asPart (by decide +kernel) (hRm 7 (by decide)) (by decide +kernel) rfl) (
    okc (ok_lret hret (by decide +kernel)) (
    okn)))))))))))))))))))))))))))))))))))))))
noncomputable def es_X12_mean  : List (Nat × En) := [(151, en_X12_isPerson), (149, en_X12_in), (208, en_X12_findChance), (211, en_X12_asPart)]
set_option maxRecDepth 100000 in
set_option maxHeartbeats 4000000 in
theorem eq_X12_mean   (a0 : Int32) (a1 : Int32) (a2 : Int32) (s : SS) : ex (tb_X12_mean (calE (es_X12_mean))) rL [] (fun _ _ _ _ => none) 41 0 [some (.ref 74), some (.int a0), some (.int a1), some (.int a2)] [] s = f_X12_mean a0 a1 a2 s := by
  rfl
set_option maxRecDepth 100000 in
set_option maxHeartbeats 4000000 in
theorem run_X12_mean {l : Launch} {G : Gm}   (a0 : Int32) (a1 : Int32) (a2 : Int32) (s : SS) (q : (Int64 × SS)) (h : f_X12_mean a0 a1 a2 s = some q) (D' : Nat) (hD : 107 ≤ D') : RunsM l G (D' + 1) (md 213) (embS s) [.ref 74, .int a0, .int a1, .int a2] (some (.long q.1)) (embS q.2) := by
  rw [md_X12_mean]
  refine runs_L (plainFor_of_name (by decide +kernel)) (Nat.le_of_ble_eq_true rfl) rfl ?_
  intro A p e R s0 m args below meth c Q ad0 hR X hret
  have X : Cx G A RX12 cX12_mean 4 p s0 m args c := X
  have hT := tk_X12_mean X (calE_ok (es := es_X12_mean) (enc (en_X12_isPerson_ok _ (by omega)) (enc (en_X12_in_ok _ (by omega)) (enc (en_X12_findChance_ok _ (by omega)) (enc (en_X12_asPart_ok _ (by omega)) (enn)))))) (rmD rfl hR) hret
  rw [← eq_X12_mean   a0 a1 a2 s] at h
  refine ex_good hT (fun pc' ls' st' x' hh => ?_) 41 0 _ [] s h
  cases hh

noncomputable def en_X12_mean  : En := fun _ av s k => match av with
  | [.ref r0, .int a0, .int a1, .int a2] => (gd (Nat.beq r0 74) (bL (f_X12_mean a0 a1 a2 s) k))
  | _ => none
set_option maxRecDepth 100000 in
set_option maxHeartbeats 4000000 in
theorem en_X12_mean_ok {l : Launch} {G : Gm} (D : Nat) (hD : 108 ≤ D) : enOK l G D 213 en_X12_mean := by
  intro ρ av x k r h
  unfold en_X12_mean at h
  split at h
  · obtain ⟨g0, h⟩ := gd_some h
    obtain ⟨q, h1, h2⟩ := bind_of h
    have e0 := beq1 g0
    subst e0
    obtain ⟨D', rfl⟩ : ∃ D', D = D' + 1 := ⟨D - 1, by omega⟩
    exact ⟨_, _, h2, run_X12_mean  _ _ _ _ _ h1 D' (by omega)⟩
  · cases h

/-! HatRankModel stand -/
noncomputable def tb_X12_stand (cal : Cal SS) : List (Nat × Ins SS) := [(0, e_aload 0 1), (1, e_iload 1 2), (2, e_callV opsS cal 151 1 12 5), (5, e_ifeq 17 8), (8, e_iload 2 9), (9, e_iconst (0) 10), (10, e_iconst (2) 11), (11, e_callS cal 149 3 14), (14, e_ifne 19 17), (17, e_iconst (-1) 18), (18, e_iret), (19, e_aload 0 20), (20, e_getI opsS 12 1 23), (23, e_iload 2 24), (24, e_bin aAdd 25), (25, e_iconst (24) 27), (27, e_cle 33 30), (30, e_iconst (-5) 32), (32, e_iret), (33, e_aload 0 34), (34, e_iload 1 35), (35, e_iload 2 36), (36, e_aload 0 37), (37, e_getR opsS 12 14 40), (40, e_iload 1 41), (41, e_ald opsS 100 42), (42, e_callV opsS cal 208 3 12 45), (45, e_aload 0 46), (46, e_getR opsS 12 14 49), (49, e_iload 1 50), (50, e_ald opsS 100 51), (51, e_istore 3 52), (52, e_aload 0 53), (53, e_getL opsS 12 46 56), (56, e_lstore 4 58), (58, e_iconst (0) 59), (59, e_istore 6 61), (61, e_iload 6 63), (63, e_aload 0 64), (64, e_getI opsS 12 4 67), (67, e_cge 106 70), (70, e_aload 0 71), (71, e_iload 1 72), (72, e_iload 2 73), (73, e_iload 6 75), (75, e_callV opsS cal 208 3 12 78), (78, e_aload 0 79), (79, e_getL opsS 12 46 82), (82, e_lload 4 84), (84, e_lcmp 85), (85, e_ifgt 91 88), (88, e_goto 100), (91, e_iload 6 93), (93, e_istore 3 94), (94, e_aload 0 95), (95, e_getL opsS 12 46 98), (98, e_lstore 4 100), (100, e_iinc 6 (1) 103), (103, e_goto 61), (106, e_iload 3 107), (107, e_iret)]
set_option maxRecDepth 100000 in
set_option maxHeartbeats 4000000 in
theorem tk_X12_stand {ad0 : Nat → Nat} {G : Gm} {A : Nat → Prop} {p : Program} {l : Launch} {e : Env} {R : Room} {s0 : State} {m : MethodId} {args : Array Value} {below : List Frame} {meth : Method} {c : Code} {Q : State → Prop} {ρ : Type} {ret : Option Value → SS → Option ρ} {r : ρ} (X : Cx G A RX12 cX12_stand 7 p s0 m args c) {D' : Nat} {cal : Cal SS} (hcal : calOK l G opsS D' cal) (hRm : ∀ k, k ≤ 21 → D' + 1 ≤ R.frames ∧ 8 + (k + 11) + 40 * D' ≤ R.locals) (hret : RetK G A cX12_stand 113 6344 ad0 p l e R s0 m args below meth c Q opsS ret r .ireturn okI) : ∀ q ∈ tb_X12_stand cal, OKi G A 7 113 6344 ad0 p l e R s0 m args below meth c Q opsS ret r q.1 q.2 :=
    okc (ok_aload_n (j := 0) X (by decide +kernel) rfl rfl) (
    okc (ok_iload_n (j := 1) X (by decide +kernel) rfl rfl) (
    okc (ok_callV (ci := 12) (C := RX12) (T := TX12) (N := 63) (Y := (yX12_isPerson, cX12_isPerson, 2, (some .boolean))) X hcal opsS_n md_X12_isPerson rfl (by decide) rfl wc_X12_isPerson wl_X12_175 wi_X12 wm_X12_isPerson wv_X12_isPerson (by decide +kernel) (hRm 2 (by decide)) (by decide +kernel) rfl) (
    okc (ok_ifeq (off := 12) X (by decide +kernel) (by decide) rfl) (
    okc (ok_iload_n (j := 2) X (by decide +kernel) rfl rfl) (
    okc (ok_iconst (n := 0) X (by decide +kernel) rfl rfl) (
    okc (ok_iconst (n := 2) X (by decide +kernel) rfl rfl) (
    okc (ok_callS (Y := (yX12_in, cX12_in, 3, (some .boolean))) X hcal opsS_n md_X12_in wc_X12_in wl_X12_134 wi_X12 ws_X12_in (by decide +kernel) (hRm 3 (by decide)) (by decide +kernel) rfl) (
    okc (ok_ifne (off := 5) X (by decide +kernel) (by decide) rfl) (
    okc (ok_iconst (n := -1) X (by decide +kernel) rfl rfl) (
    okc (ok_iret hret (by decide +kernel)) (
    okc (ok_aload_n (j := 0) X (by decide +kernel) rfl rfl) (
    okc (ok_getI (ci := 12) (kf := 1) (idx := 272) (C := RX12) (T := TX12) (N := 63) X rfl (by decide) inX12 (by decide) wf_X12_272 (fun _ _ _ => rfl) (by decide +kernel) rfl) (
    okc (ok_iload_n (j := 2) X (by decide +kernel) rfl rfl) (
    okc (ok_iadd X (by decide +kernel) rfl) (
    okc (ok_bipush (n := 24) X (by decide +kernel) rfl rfl) (
    okc (ok_cle (off := 6) X (by decide +kernel) (by decide) rfl) (
    okc (ok_bipush (n := -5) X (by decide +kernel) rfl rfl) (
    okc (ok_iret hret (by decide +kernel)) (
    okc (ok_aload_n (j := 0) X (by decide +kernel) rfl rfl) (
    okc (ok_iload_n (j := 1) X (by decide +kernel) rfl rfl) (
    okc (ok_iload_n (j := 2) X (by decide +kernel) rfl rfl) (
    okc (ok_aload_n (j := 0) X (by decide +kernel) rfl rfl) (
    okc (ok_getR (ci := 12) (kf := 14) (idx := 34) (C := RX12) (T := TX12) (N := 63) X rfl (by decide) inX12 (by decide) wf_X12_34 (fun _ _ _ => rfl) (by decide +kernel) rfl) (
    okc (ok_iload_n (j := 1) X (by decide +kernel) rfl rfl) (
    okc (ok_iald X (by decide +kernel) rfl) (
    okc (ok_callV (ci := 12) (C := RX12) (T := TX12) (N := 63) (Y := (yX12_findChance, cX12_findChance, 4, none)) X hcal opsS_n md_X12_findChance rfl (by decide) rfl wc_X12_findChance wl_X12_351 wi_X12 wm_X12_findChance wv_X12_findChance (by decide +kernel) (hRm 4 (by decide)) (by decide +kernel) rfl) (
    okc (ok_aload_n (j := 0) X (by decide +kernel) rfl rfl) (
    okc (ok_getR (ci := 12) (kf := 14) (idx := 34) (C := RX12) (T := TX12) (N := 63) X rfl (by decide) inX12 (by decide) wf_X12_34 (fun _ _ _ => rfl) (by decide +kernel) rfl) (
    okc (ok_iload_n (j := 1) X (by decide +kernel) rfl rfl) (
    okc (ok_iald X (by decide +kernel) rfl) (
    okc (ok_istore_n (j := 3) X (by decide +kernel) rfl rfl) (
    okc (ok_aload_n (j := 0) X (by decide +kernel) rfl rfl) (
    okc (ok_getL (ci := 12) (kf := 46) (idx := 318) (C := RX12) (T := TX12) (N := 63) X rfl (by decide) inX12 (by decide) wf_X12_318 (fun _ _ _ => rfl) (by decide +kernel) rfl) (
    okc (ok_lstore X (by decide +kernel) rfl) (
    okc (ok_iconst (n := 0) X (by decide +kernel) rfl rfl) (
    okc (ok_istore X (by decide +kernel) rfl) (
    okc (ok_iload X (by decide +kernel) rfl) (
    okc (ok_aload_n (j := 0) X (by decide +kernel) rfl rfl) (
    okc (ok_getI (ci := 12) (kf := 4) (idx := 131) (C := RX12) (T := TX12) (N := 63) X rfl (by decide) inX12 (by decide) wf_X12_131 (fun _ _ _ => rfl) (by decide +kernel) rfl) (
    okc (ok_cge (off := 39) X (by decide +kernel) (by decide) rfl) (
    okc (ok_aload_n (j := 0) X (by decide +kernel) rfl rfl) (
    okc (ok_iload_n (j := 1) X (by decide +kernel) rfl rfl) (
    okc (ok_iload_n (j := 2) X (by decide +kernel) rfl rfl) (
    okc (ok_iload X (by decide +kernel) rfl) (
    okc (ok_callV (ci := 12) (C := RX12) (T := TX12) (N := 63) (Y := (yX12_findChance, cX12_findChance, 4, none)) X hcal opsS_n md_X12_findChance rfl (by decide) rfl wc_X12_findChance wl_X12_351 wi_X12 wm_X12_findChance wv_X12_findChance (by decide +kernel) (hRm 4 (by decide)) (by decide +kernel) rfl) (
    okc (ok_aload_n (j := 0) X (by decide +kernel) rfl rfl) (
    okc (ok_getL (ci := 12) (kf := 46) (idx := 318) (C := RX12) (T := TX12) (N := 63) X rfl (by decide) inX12 (by decide) wf_X12_318 (fun _ _ _ => rfl) (by decide +kernel) rfl) (
    okc (ok_lload X (by decide +kernel) rfl) (
    okc (ok_lcmp X (by decide +kernel) rfl) (
    okc (ok_ifgt (off := 6) X (by decide +kernel) (by decide) rfl) (
    okc (ok_goto (off := 12) X (by decide +kernel) (by decide)) (
    okc (ok_iload X (by decide +kernel) rfl) (
    okc (ok_istore_n (j := 3) X (by decide +kernel) rfl rfl) (
    okc (ok_aload_n (j := 0) X (by decide +kernel) rfl rfl) (
    okc (ok_getL (ci := 12) (kf := 46) (idx := 318) (C := RX12) (T := TX12) (N := 63) X rfl (by decide) inX12 (by decide) wf_X12_318 (fun _ _ _ => rfl) (by decide +kernel) rfl) (
    okc (ok_lstore X (by decide +kernel) rfl) (
    okc (ok_iinc (n := 1) X (by decide +kernel) rfl rfl) (
    okc (ok_goto (off := -42) X (by decide +kernel) (by decide)) (
    okc (ok_iload_n (j := 3) X (by decide +kernel) rfl rfl) (
    okc (ok_iret hret (by decide +kernel)) (
    okn)))))))))))))))))))))))))))))))))))))))))))))))))))))))))))))
noncomputable def es_X12_stand  : List (Nat × En) := [(151, en_X12_isPerson), (149, en_X12_in), (208, en_X12_findChance)]
noncomputable def ka_X12_stand_61   (n : Nat) : Kn SS (Int32 × SS) := fun pc ls st s => bif Nat.beq pc 61 then (match ls, st with
    | [some y0, some (.int x1), some (.int x2), some (.int x3), some (.long x4), _, some (.int x6)], [] => (gd (veq y0 (.ref 74)) (F_X12_stand_61 n x1 x2 x3 x4 x6 s))
    | _, _ => none) else (none)
set_option maxRecDepth 100000 in
set_option maxHeartbeats 4000000 in
theorem eq_X12_stand_61    (n : Nat) (x1 : Int32) (x2 : Int32) (x3 : Int32) (x4 : Int64) (x6 : Int32) (s : SS) : ex (tb_X12_stand (calE (es_X12_stand))) rI [61] (ka_X12_stand_61   n) 63 61 [some (.ref 74), some (.int x1), some (.int x2), some (.int x3), some (.long x4), none, some (.int x6)] [] s = F_X12_stand_61   (n + 1) x1 x2 x3 x4 x6 s := by
  rfl
set_option maxRecDepth 100000 in
set_option maxHeartbeats 4000000 in
theorem gd_X12_stand_61 {ad0 : Nat → Nat} {G : Gm} {A : Nat → Prop} {p : Program} {l : Launch} {e : Env} {R : Room} {s0 : State} {m : MethodId} {args : Array Value} {below : List Frame} {meth : Method} {c : Code} {Q : State → Prop} {r : (Int32 × SS)}   (hT : ∀ q ∈ tb_X12_stand (calE (es_X12_stand)), OKi G A 7 113 6344 ad0 p l e R s0 m args below meth c Q opsS rI r q.1 q.2)   : ∀ (n : Nat) (x1 : Int32) (x2 : Int32) (x3 : Int32) (x4 : Int64) (x6 : Int32) (s : SS), F_X12_stand_61   n x1 x2 x3 x4 x6 s = some r → Gd G A 7 113 6344 ad0 p l e R s0 m args below meth c Q opsS 61 [some (.ref 74), some (.int x1), some (.int x2), some (.int x3), some (.long x4), none, some (.int x6)] [] s := by
  intro n
  induction n with
  | zero =>
    intro x1 x2 x3 x4 x6 s hh
    exact absurd (show (none : Option (Int32 × SS)) = some r from hh) (by simp)
  | succ n ih =>
    intro x1 x2 x3 x4 x6 s hh
    rw [← eq_X12_stand_61    n x1 x2 x3 x4 x6 s] at hh
    refine ex_good hT (fun pc' ls' st' x' hh => ?_) 63 61 _ [] s hh
    unfold ka_X12_stand_61 at hh
    cases hb : Nat.beq pc' 61 with
    | true =>
      rw [hb] at hh
      have e9 := beq1 hb
      subst e9
      simp only [cond_true] at hh
      split at hh
      · obtain ⟨g0, hh1⟩ := gd_some hh
        have e0 := veq_of g0
        subst e0
        exact Gd.wk (ih _ _ _ _ _ _ hh1) (Lle.eq (Lle.eq (Lle.eq (Lle.eq (Lle.eq (Lle.no (Lle.eq Lle.nil)))))))
      · cases hh
    | false =>
      rw [hb] at hh
      simp only [cond_false] at hh
      cases hh

noncomputable def ka_X12_stand  : Kn SS (Int32 × SS) := fun pc ls st s => bif Nat.beq pc 61 then (match ls, st with
    | [some y0, some (.int x1), some (.int x2), some (.int x3), some (.long x4), _, some (.int x6)], [] => (gd (veq y0 (.ref 74)) (F_X12_stand_61 fuel0 x1 x2 x3 x4 x6 s))
    | _, _ => none) else (none)
set_option maxRecDepth 100000 in
set_option maxHeartbeats 4000000 in
theorem eq_X12_stand   (a0 : Int32) (a1 : Int32) (s : SS) : ex (tb_X12_stand (calE (es_X12_stand))) rI [61] (ka_X12_stand ) 63 0 [some (.ref 74), some (.int a0), some (.int a1), none, none, none, none] [] s = f_X12_stand a0 a1 s := by
  rfl
set_option maxRecDepth 100000 in
set_option maxHeartbeats 4000000 in
theorem run_X12_stand {l : Launch} {G : Gm}   (a0 : Int32) (a1 : Int32) (s : SS) (q : (Int32 × SS)) (h : f_X12_stand a0 a1 s = some q) (D' : Nat) (hD : 107 ≤ D') : RunsM l G (D' + 1) (md 214) (embS s) [.ref 74, .int a0, .int a1] (some (.int q.1)) (embS q.2) := by
  rw [md_X12_stand]
  refine runs_I (plainFor_of_name (by decide +kernel)) (Nat.le_of_ble_eq_true rfl) rfl ?_
  intro A p e R s0 m args below meth c Q ad0 hR X hret
  have X : Cx G A RX12 cX12_stand 7 p s0 m args c := X
  have hT := tk_X12_stand X (calE_ok (es := es_X12_stand) (enc (en_X12_isPerson_ok _ (by omega)) (enc (en_X12_in_ok _ (by omega)) (enc (en_X12_findChance_ok _ (by omega)) (enn))))) (rmD rfl hR) hret
  rw [← eq_X12_stand   a0 a1 s] at h
  refine ex_good hT (fun pc' ls' st' x' hh => ?_) 63 0 _ [] s h
  unfold ka_X12_stand at hh
  cases hb : Nat.beq pc' 61 with
  | true =>
    rw [hb] at hh
    have e9 := beq1 hb
    subst e9
    simp only [cond_true] at hh
    split at hh
    · obtain ⟨g0, hh1⟩ := gd_some hh
      have e0 := veq_of g0
      subst e0
      exact Gd.wk (gd_X12_stand_61 hT  _ _ _ _ _ _ _ hh1) (Lle.eq (Lle.eq (Lle.eq (Lle.eq (Lle.eq (Lle.no (Lle.eq Lle.nil)))))))
    · cases hh
  | false =>
    rw [hb] at hh
    simp only [cond_false] at hh
    cases hh

noncomputable def en_X12_stand  : En := fun _ av s k => match av with
  | [.ref r0, .int a0, .int a1] => (gd (Nat.beq r0 74) (bI (f_X12_stand a0 a1 s) k))
  | _ => none
set_option maxRecDepth 100000 in
set_option maxHeartbeats 4000000 in
theorem en_X12_stand_ok {l : Launch} {G : Gm} (D : Nat) (hD : 108 ≤ D) : enOK l G D 214 en_X12_stand := by
  intro ρ av x k r h
  unfold en_X12_stand at h
  split at h
  · obtain ⟨g0, h⟩ := gd_some h
    obtain ⟨q, h1, h2⟩ := bind_of h
    have e0 := beq1 g0
    subst e0
    obtain ⟨D', rfl⟩ : ∃ D', D = D' + 1 := ⟨D - 1, by omega⟩
    exact ⟨_, _, h2, run_X12_stand  _ _ _ _ h1 D' (by omega)⟩
  · cases h

/-! HatRankModel heavy -/
noncomputable def tb_X12_heavy (cal : Cal SS) : List (Nat × Ins SS) := [(0, e_aload 0 1), (1, e_iload 1 2), (2, e_callV opsS cal 151 1 12 5), (5, e_ifeq 31 8), (8, e_iload 2 9), (9, e_iflt 31 12), (12, e_iload 2 13), (13, e_iconst (100) 15), (15, e_div aDiv 16), (16, e_callS cal 152 1 19), (19, e_ifeq 31 22), (22, e_iload 2 23), (23, e_iconst (100) 25), (25, e_div aRem 26), (26, e_iconst (12) 28), (28, e_cle 33 31), (31, e_iconst (-1) 32), (32, e_iret), (33, e_aload 0 34), (34, e_callV opsS cal 185 0 12 37), (37, e_iconst (0) 38), (38, e_istore 3 39), (39, e_iload 3 40), (40, e_iconst (9) 42), (42, e_cgt 76 45), (45, e_aload 0 46), (46, e_iload 1 47), (47, e_iload 2 48), (48, e_iconst (100) 50), (50, e_div aDiv 51), (51, e_aload 0 52), (52, e_getR opsS 12 14 55), (55, e_iload 1 56), (56, e_ald opsS 100 57), (57, e_iload 3 58), (58, e_callV opsS cal 187 4 12 61), (61, e_iload 2 62), (62, e_iconst (100) 64), (64, e_div aRem 65), (65, e_cgt 70 68), (68, e_iload 3 69), (69, e_iret), (70, e_iinc 3 (1) 73), (73, e_goto 39), (76, e_iconst (-2) 78), (78, e_iret)]
set_option maxRecDepth 100000 in
set_option maxHeartbeats 4000000 in
theorem tk_X12_heavy {ad0 : Nat → Nat} {G : Gm} {A : Nat → Prop} {p : Program} {l : Launch} {e : Env} {R : Room} {s0 : State} {m : MethodId} {args : Array Value} {below : List Frame} {meth : Method} {c : Code} {Q : State → Prop} {ρ : Type} {ret : Option Value → SS → Option ρ} {r : ρ} (X : Cx G A RX12 cX12_heavy 4 p s0 m args c) {D' : Nat} {cal : Cal SS} (hcal : calOK l G opsS D' cal) (hRm : ∀ k, k ≤ 21 → D' + 1 ≤ R.frames ∧ 8 + (k + 11) + 40 * D' ≤ R.locals) (hret : RetK G A cX12_heavy 113 6344 ad0 p l e R s0 m args below meth c Q opsS ret r .ireturn okI) : ∀ q ∈ tb_X12_heavy cal, OKi G A 4 113 6344 ad0 p l e R s0 m args below meth c Q opsS ret r q.1 q.2 :=
    okc (ok_aload_n (j := 0) X (by decide +kernel) rfl rfl) (
    okc (ok_iload_n (j := 1) X (by decide +kernel) rfl rfl) (
    okc (ok_callV (ci := 12) (C := RX12) (T := TX12) (N := 63) (Y := (yX12_isPerson, cX12_isPerson, 2, (some .boolean))) X hcal opsS_n md_X12_isPerson rfl (by decide) rfl wc_X12_isPerson wl_X12_175 wi_X12 wm_X12_isPerson wv_X12_isPerson (by decide +kernel) (hRm 2 (by decide)) (by decide +kernel) rfl) (
    okc (ok_ifeq (off := 26) X (by decide +kernel) (by decide) rfl) (
    okc (ok_iload_n (j := 2) X (by decide +kernel) rfl rfl) (
    okc (ok_iflt (off := 22) X (by decide +kernel) (by decide) rfl) (
    okc (ok_iload_n (j := 2) X (by decide +kernel) rfl rfl) (
    okc (ok_bipush (n := 100) X (by decide +kernel) rfl rfl) (
    okc (ok_idiv X (by decide +kernel) rfl) (
    okc (ok_callS (Y := (yX12_isHour, cX12_isHour, 1, (some .boolean))) X hcal opsS_n md_X12_isHour wc_X12_isHour wl_X12_181 wi_X12 ws_X12_isHour (by decide +kernel) (hRm 1 (by decide)) (by decide +kernel) rfl) (
    okc (ok_ifeq (off := 12) X (by decide +kernel) (by decide) rfl) (
    okc (ok_iload_n (j := 2) X (by decide +kernel) rfl rfl) (
    okc (ok_bipush (n := 100) X (by decide +kernel) rfl rfl) (
    okc (ok_irem X (by decide +kernel) rfl) (
    okc (ok_bipush (n := 12) X (by decide +kernel) rfl rfl) (
    okc (ok_cle (off := 5) X (by decide +kernel) (by decide) rfl) (
    okc (ok_iconst (n := -1) X (by decide +kernel) rfl rfl) (
    okc (ok_iret hret (by decide +kernel)) (
    okc (ok_aload_n (j := 0) X (by decide +kernel) rfl rfl) (
    okc (ok_callV (ci := 12) (C := RX12) (T := TX12) (N := 63) (Y := (yX12_think, cX12_think, 2, none)) X hcal opsS_n md_X12_think rfl (by decide) rfl wc_X12_think wl_X12_275 wi_X12 wm_X12_think wv_X12_think (by decide +kernel) (hRm 2 (by decide)) (by decide +kernel) rfl) (
    okc (ok_iconst (n := 0) X (by decide +kernel) rfl rfl) (
    okc (ok_istore_n (j := 3) X (by decide +kernel) rfl rfl) (
    okc (ok_iload_n (j := 3) X (by decide +kernel) rfl rfl) (
    okc (ok_bipush (n := 9) X (by decide +kernel) rfl rfl) (
    okc (ok_cgt (off := 34) X (by decide +kernel) (by decide) rfl) (
    okc (ok_aload_n (j := 0) X (by decide +kernel) rfl rfl) (
    okc (ok_iload_n (j := 1) X (by decide +kernel) rfl rfl) (
    okc (ok_iload_n (j := 2) X (by decide +kernel) rfl rfl) (
    okc (ok_bipush (n := 100) X (by decide +kernel) rfl rfl) (
    okc (ok_idiv X (by decide +kernel) rfl) (
    okc (ok_aload_n (j := 0) X (by decide +kernel) rfl rfl) (
    okc (ok_getR (ci := 12) (kf := 14) (idx := 34) (C := RX12) (T := TX12) (N := 63) X rfl (by decide) inX12 (by decide) wf_X12_34 (fun _ _ _ => rfl) (by decide +kernel) rfl) (
    okc (ok_iload_n (j := 1) X (by decide +kernel) rfl rfl) (
    okc (ok_iald X (by decide +kernel) rfl) (
    okc (ok_iload_n (j := 3) X (by decide +kernel) rfl rfl) (
    okc (ok_callV (ci := 12) (C := RX12) (T := TX12) (N := 63) (Y := (yX12_fallsBy, cX12_fallsBy, 9, (some .int))) X hcal opsS_n md_X12_fallsBy rfl (by decide) rfl wc_X12_fallsBy wl_X12_258 wi_X12 wm_X12_fallsBy wv_X12_fallsBy (by decide +kernel) (hRm 9 (by decide)) (by decide +kernel) rfl) (
    okc (ok_iload_n (j := 2) X (by decide +kernel) rfl rfl) (
    okc (ok_bipush (n := 100) X (by decide +kernel) rfl rfl) (
    okc (ok_irem X (by decide +kernel) rfl) (
    okc (ok_cgt (off := 5) X (by decide +kernel) (by decide) rfl) (
    okc (ok_iload_n (j := 3) X (by decide +kernel) rfl rfl) (
    okc (ok_iret hret (by decide +kernel)) (
    okc (ok_iinc (n := 1) X (by decide +kernel) rfl rfl) (
    okc (ok_goto (off := -34) X (by decide +kernel) (by decide)) (
    okc (ok_bipush (n := -2) X (by decide +kernel) rfl rfl) (
    okc (ok_iret hret (by decide +kernel)) (
    okn))))))))))))))))))))))))))))))))))))))))))))))
noncomputable def es_X12_heavy  : List (Nat × En) := [(151, en_X12_isPerson), (152, en_X12_isHour), (185, en_X12_think), (187, en_X12_fallsBy)]
noncomputable def ka_X12_heavy_39   (n : Nat) : Kn SS (Int32 × SS) := fun pc ls st s => bif Nat.beq pc 39 then (match ls, st with
    | [some y0, some (.int x1), some (.int x2), some (.int x3)], [] => (gd (veq y0 (.ref 74)) (F_X12_heavy_39 n x1 x2 x3 s))
    | _, _ => none) else (none)
set_option maxRecDepth 100000 in
set_option maxHeartbeats 4000000 in
theorem eq_X12_heavy_39    (n : Nat) (x1 : Int32) (x2 : Int32) (x3 : Int32) (s : SS) : ex (tb_X12_heavy (calE (es_X12_heavy))) rI [39] (ka_X12_heavy_39   n) 48 39 [some (.ref 74), some (.int x1), some (.int x2), some (.int x3)] [] s = F_X12_heavy_39   (n + 1) x1 x2 x3 s := by
  rfl
set_option maxRecDepth 100000 in
set_option maxHeartbeats 4000000 in
theorem gd_X12_heavy_39 {ad0 : Nat → Nat} {G : Gm} {A : Nat → Prop} {p : Program} {l : Launch} {e : Env} {R : Room} {s0 : State} {m : MethodId} {args : Array Value} {below : List Frame} {meth : Method} {c : Code} {Q : State → Prop} {r : (Int32 × SS)}   (hT : ∀ q ∈ tb_X12_heavy (calE (es_X12_heavy)), OKi G A 4 113 6344 ad0 p l e R s0 m args below meth c Q opsS rI r q.1 q.2)   : ∀ (n : Nat) (x1 : Int32) (x2 : Int32) (x3 : Int32) (s : SS), F_X12_heavy_39   n x1 x2 x3 s = some r → Gd G A 4 113 6344 ad0 p l e R s0 m args below meth c Q opsS 39 [some (.ref 74), some (.int x1), some (.int x2), some (.int x3)] [] s := by
  intro n
  induction n with
  | zero =>
    intro x1 x2 x3 s hh
    exact absurd (show (none : Option (Int32 × SS)) = some r from hh) (by simp)
  | succ n ih =>
    intro x1 x2 x3 s hh
    rw [← eq_X12_heavy_39    n x1 x2 x3 s] at hh
    refine ex_good hT (fun pc' ls' st' x' hh => ?_) 48 39 _ [] s hh
    unfold ka_X12_heavy_39 at hh
    cases hb : Nat.beq pc' 39 with
    | true =>
      rw [hb] at hh
      have e9 := beq1 hb
      subst e9
      simp only [cond_true] at hh
      split at hh
      · obtain ⟨g0, hh1⟩ := gd_some hh
        have e0 := veq_of g0
        subst e0
        exact Gd.wk (ih _ _ _ _ hh1) (Lle.eq (Lle.eq (Lle.eq (Lle.eq Lle.nil))))
      · cases hh
    | false =>
      rw [hb] at hh
      simp only [cond_false] at hh
      cases hh

noncomputable def ka_X12_heavy  : Kn SS (Int32 × SS) := fun pc ls st s => bif Nat.beq pc 39 then (match ls, st with
    | [some y0, some (.int x1), some (.int x2), some (.int x3)], [] => (gd (veq y0 (.ref 74)) (F_X12_heavy_39 fuel0 x1 x2 x3 s))
    | _, _ => none) else (none)
set_option maxRecDepth 100000 in
set_option maxHeartbeats 4000000 in
theorem eq_X12_heavy   (a0 : Int32) (a1 : Int32) (s : SS) : ex (tb_X12_heavy (calE (es_X12_heavy))) rI [39] (ka_X12_heavy ) 48 0 [some (.ref 74), some (.int a0), some (.int a1), none] [] s = f_X12_heavy a0 a1 s := by
  rfl
set_option maxRecDepth 100000 in
set_option maxHeartbeats 4000000 in
theorem run_X12_heavy {l : Launch} {G : Gm}   (a0 : Int32) (a1 : Int32) (s : SS) (q : (Int32 × SS)) (h : f_X12_heavy a0 a1 s = some q) (D' : Nat) (hD : 4 ≤ D') : RunsM l G (D' + 1) (md 215) (embS s) [.ref 74, .int a0, .int a1] (some (.int q.1)) (embS q.2) := by
  rw [md_X12_heavy]
  refine runs_I (plainFor_of_name (by decide +kernel)) (Nat.le_of_ble_eq_true rfl) rfl ?_
  intro A p e R s0 m args below meth c Q ad0 hR X hret
  have X : Cx G A RX12 cX12_heavy 4 p s0 m args c := X
  have hT := tk_X12_heavy X (calE_ok (es := es_X12_heavy) (enc (en_X12_isPerson_ok _ (by omega)) (enc (en_X12_isHour_ok _ (by omega)) (enc (en_X12_think_ok _ (by omega)) (enc (en_X12_fallsBy_ok _ (by omega)) (enn)))))) (rmD rfl hR) hret
  rw [← eq_X12_heavy   a0 a1 s] at h
  refine ex_good hT (fun pc' ls' st' x' hh => ?_) 48 0 _ [] s h
  unfold ka_X12_heavy at hh
  cases hb : Nat.beq pc' 39 with
  | true =>
    rw [hb] at hh
    have e9 := beq1 hb
    subst e9
    simp only [cond_true] at hh
    split at hh
    · obtain ⟨g0, hh1⟩ := gd_some hh
      have e0 := veq_of g0
      subst e0
      exact Gd.wk (gd_X12_heavy_39 hT  _ _ _ _ _ hh1) (Lle.eq (Lle.eq (Lle.eq (Lle.eq Lle.nil))))
    · cases hh
  | false =>
    rw [hb] at hh
    simp only [cond_false] at hh
    cases hh

noncomputable def en_X12_heavy  : En := fun _ av s k => match av with
  | [.ref r0, .int a0, .int a1] => (gd (Nat.beq r0 74) (bI (f_X12_heavy a0 a1 s) k))
  | _ => none
set_option maxRecDepth 100000 in
set_option maxHeartbeats 4000000 in
theorem en_X12_heavy_ok {l : Launch} {G : Gm} (D : Nat) (hD : 5 ≤ D) : enOK l G D 215 en_X12_heavy := by
  intro ρ av x k r h
  unfold en_X12_heavy at h
  split at h
  · obtain ⟨g0, h⟩ := gd_some h
    obtain ⟨q, h1, h2⟩ := bind_of h
    have e0 := beq1 g0
    subst e0
    obtain ⟨D', rfl⟩ : ∃ D', D = D' + 1 := ⟨D - 1, by omega⟩
    exact ⟨_, _, h2, run_X12_heavy  _ _ _ _ h1 D' (by omega)⟩
  · cases h

/-! HatRankModel thinkOn -/
noncomputable def tb_X12_thinkOn (cal : Cal SS) : List (Nat × Ins SS) := [(0, e_aload 0 1), (1, e_callV opsS cal 185 0 12 4), (4, e_aload 0 5), (5, e_iload 1 6), (6, e_putI opsS 12 40 9), (9, e_aload 0 10), (10, e_getI opsS 12 1 13), (13, e_istore 3 14), (14, e_iload 3 15), (15, e_aload 0 16), (16, e_getI opsS 12 1 19), (19, e_iload 2 20), (20, e_bin aAdd 21), (21, e_cge 36 24), (24, e_aload 0 25), (25, e_iload 3 26), (26, e_callV opsS cal 194 1 12 29), (29, e_pop 30), (30, e_iinc 3 (1) 33), (33, e_goto 14), (36, e_vret)]
set_option maxRecDepth 100000 in
set_option maxHeartbeats 4000000 in
theorem tk_X12_thinkOn {ad0 : Nat → Nat} {G : Gm} {A : Nat → Prop} {p : Program} {l : Launch} {e : Env} {R : Room} {s0 : State} {m : MethodId} {args : Array Value} {below : List Frame} {meth : Method} {c : Code} {Q : State → Prop} {ρ : Type} {ret : Option Value → SS → Option ρ} {r : ρ} (X : Cx G A RX12 cX12_thinkOn 4 p s0 m args c) {D' : Nat} {cal : Cal SS} (hcal : calOK l G opsS D' cal) (hRm : ∀ k, k ≤ 21 → D' + 1 ≤ R.frames ∧ 8 + (k + 11) + 40 * D' ≤ R.locals) (hret : RetK G A cX12_thinkOn 113 6344 ad0 p l e R s0 m args below meth c Q opsS ret r .return_ okV) : ∀ q ∈ tb_X12_thinkOn cal, OKi G A 4 113 6344 ad0 p l e R s0 m args below meth c Q opsS ret r q.1 q.2 :=
    okc (ok_aload_n (j := 0) X (by decide +kernel) rfl rfl) (
    okc (ok_callV (ci := 12) (C := RX12) (T := TX12) (N := 63) (Y := (yX12_think, cX12_think, 2, none)) X hcal opsS_n md_X12_think rfl (by decide) rfl wc_X12_think wl_X12_275 wi_X12 wm_X12_think wv_X12_think (by decide +kernel) (hRm 2 (by decide)) (by decide +kernel) rfl) (
    okc (ok_aload_n (j := 0) X (by decide +kernel) rfl rfl) (
    okc (ok_iload_n (j := 1) X (by decide +kernel) rfl rfl) (
    okc (ok_putI (ci := 12) (kf := 40) (idx := 287) (C := RX12) (T := TX12) (N := 63) X opsS_ok rfl (by decide) inX12 tyX12_ok nmX12 (by decide) wf_X12_287 rfl (fun _ _ _ => rfl) (by decide +kernel) (by decide +kernel) rfl) (
    okc (ok_aload_n (j := 0) X (by decide +kernel) rfl rfl) (
    okc (ok_getI (ci := 12) (kf := 1) (idx := 272) (C := RX12) (T := TX12) (N := 63) X rfl (by decide) inX12 (by decide) wf_X12_272 (fun _ _ _ => rfl) (by decide +kernel) rfl) (
    okc (ok_istore_n (j := 3) X (by decide +kernel) rfl rfl) (
    okc (ok_iload_n (j := 3) X (by decide +kernel) rfl rfl) (
    okc (ok_aload_n (j := 0) X (by decide +kernel) rfl rfl) (
    okc (ok_getI (ci := 12) (kf := 1) (idx := 272) (C := RX12) (T := TX12) (N := 63) X rfl (by decide) inX12 (by decide) wf_X12_272 (fun _ _ _ => rfl) (by decide +kernel) rfl) (
    okc (ok_iload_n (j := 2) X (by decide +kernel) rfl rfl) (
    okc (ok_iadd X (by decide +kernel) rfl) (
    okc (ok_cge (off := 15) X (by decide +kernel) (by decide) rfl) (
    okc (ok_aload_n (j := 0) X (by decide +kernel) rfl rfl) (
    okc (ok_iload_n (j := 3) X (by decide +kernel) rfl rfl) (
    okc (ok_callV (ci := 12) (C := RX12) (T := TX12) (N := 63) (Y := (yX12_goHour, cX12_goHour, 4, (some .int))) X hcal opsS_n md_X12_goHour rfl (by decide) rfl wc_X12_goHour wl_X12_295 wi_X12 wm_X12_goHour wv_X12_goHour (by decide +kernel) (hRm 4 (by decide)) (by decide +kernel) rfl) (
    okc (ok_pop X (by decide +kernel) rfl) (
    okc (ok_iinc (n := 1) X (by decide +kernel) rfl rfl) (
    okc (ok_goto (off := -19) X (by decide +kernel) (by decide)) (
    okc (ok_vret hret (by decide +kernel)) (
    okn)))))))))))))))))))))
noncomputable def es_X12_thinkOn  : List (Nat × En) := [(185, en_X12_think), (194, en_X12_goHour)]
noncomputable def ka_X12_thinkOn_14   (n : Nat) : Kn SS SS := fun pc ls st s => bif Nat.beq pc 14 then (match ls, st with
    | [some y0, _, some (.int x2), some (.int x3)], [] => (gd (veq y0 (.ref 74)) (F_X12_thinkOn_14 n x2 x3 s))
    | _, _ => none) else (none)
set_option maxRecDepth 100000 in
set_option maxHeartbeats 4000000 in
theorem eq_X12_thinkOn_14    (n : Nat) (x2 : Int32) (x3 : Int32) (s : SS) : ex (tb_X12_thinkOn (calE (es_X12_thinkOn))) rV [14] (ka_X12_thinkOn_14   n) 23 14 [some (.ref 74), none, some (.int x2), some (.int x3)] [] s = F_X12_thinkOn_14   (n + 1) x2 x3 s := by
  rfl
set_option maxRecDepth 100000 in
set_option maxHeartbeats 4000000 in
theorem gd_X12_thinkOn_14 {ad0 : Nat → Nat} {G : Gm} {A : Nat → Prop} {p : Program} {l : Launch} {e : Env} {R : Room} {s0 : State} {m : MethodId} {args : Array Value} {below : List Frame} {meth : Method} {c : Code} {Q : State → Prop} {r : SS}   (hT : ∀ q ∈ tb_X12_thinkOn (calE (es_X12_thinkOn)), OKi G A 4 113 6344 ad0 p l e R s0 m args below meth c Q opsS rV r q.1 q.2)   : ∀ (n : Nat) (x2 : Int32) (x3 : Int32) (s : SS), F_X12_thinkOn_14   n x2 x3 s = some r → Gd G A 4 113 6344 ad0 p l e R s0 m args below meth c Q opsS 14 [some (.ref 74), none, some (.int x2), some (.int x3)] [] s := by
  intro n
  induction n with
  | zero =>
    intro x2 x3 s hh
    exact absurd (show (none : Option SS) = some r from hh) (by simp)
  | succ n ih =>
    intro x2 x3 s hh
    rw [← eq_X12_thinkOn_14    n x2 x3 s] at hh
    refine ex_good hT (fun pc' ls' st' x' hh => ?_) 23 14 _ [] s hh
    unfold ka_X12_thinkOn_14 at hh
    cases hb : Nat.beq pc' 14 with
    | true =>
      rw [hb] at hh
      have e9 := beq1 hb
      subst e9
      simp only [cond_true] at hh
      split at hh
      · obtain ⟨g0, hh1⟩ := gd_some hh
        have e0 := veq_of g0
        subst e0
        exact Gd.wk (ih _ _ _ hh1) (Lle.eq (Lle.no (Lle.eq (Lle.eq Lle.nil))))
      · cases hh
    | false =>
      rw [hb] at hh
      simp only [cond_false] at hh
      cases hh

noncomputable def ka_X12_thinkOn  : Kn SS SS := fun pc ls st s => bif Nat.beq pc 14 then (match ls, st with
    | [some y0, _, some (.int x2), some (.int x3)], [] => (gd (veq y0 (.ref 74)) (F_X12_thinkOn_14 fuel0 x2 x3 s))
    | _, _ => none) else (none)
set_option maxRecDepth 100000 in
set_option maxHeartbeats 4000000 in
theorem eq_X12_thinkOn   (a0 : Int32) (a1 : Int32) (s : SS) : ex (tb_X12_thinkOn (calE (es_X12_thinkOn))) rV [14] (ka_X12_thinkOn ) 23 0 [some (.ref 74), some (.int a0), some (.int a1), none] [] s = f_X12_thinkOn a0 a1 s := by
  rfl
set_option maxRecDepth 100000 in
set_option maxHeartbeats 4000000 in
theorem run_X12_thinkOn {l : Launch} {G : Gm}   (a0 : Int32) (a1 : Int32) (s : SS) (q : SS) (h : f_X12_thinkOn a0 a1 s = some q) (D' : Nat) (hD : 6 ≤ D') : RunsM l G (D' + 1) (md 216) (embS s) [.ref 74, .int a0, .int a1] none (embS q) := by
  rw [md_X12_thinkOn]
  refine runs_V (plainFor_of_name (by decide +kernel)) (Nat.le_of_ble_eq_true rfl) rfl ?_
  intro A p e R s0 m args below meth c Q ad0 hR X hret
  have X : Cx G A RX12 cX12_thinkOn 4 p s0 m args c := X
  have hT := tk_X12_thinkOn X (calE_ok (es := es_X12_thinkOn) (enc (en_X12_think_ok _ (by omega)) (enc (en_X12_goHour_ok _ (by omega)) (enn)))) (rmD rfl hR) hret
  rw [← eq_X12_thinkOn   a0 a1 s] at h
  refine ex_good hT (fun pc' ls' st' x' hh => ?_) 23 0 _ [] s h
  unfold ka_X12_thinkOn at hh
  cases hb : Nat.beq pc' 14 with
  | true =>
    rw [hb] at hh
    have e9 := beq1 hb
    subst e9
    simp only [cond_true] at hh
    split at hh
    · obtain ⟨g0, hh1⟩ := gd_some hh
      have e0 := veq_of g0
      subst e0
      exact Gd.wk (gd_X12_thinkOn_14 hT  _ _ _ _ hh1) (Lle.eq (Lle.no (Lle.eq (Lle.eq Lle.nil))))
    · cases hh
  | false =>
    rw [hb] at hh
    simp only [cond_false] at hh
    cases hh

noncomputable def en_X12_thinkOn  : En := fun _ av s k => match av with
  | [.ref r0, .int a0, .int a1] => (gd (Nat.beq r0 74) (bV (f_X12_thinkOn a0 a1 s) k))
  | _ => none
set_option maxRecDepth 100000 in
set_option maxHeartbeats 4000000 in
theorem en_X12_thinkOn_ok {l : Launch} {G : Gm} (D : Nat) (hD : 7 ≤ D) : enOK l G D 216 en_X12_thinkOn := by
  intro ρ av x k r h
  unfold en_X12_thinkOn at h
  split at h
  · obtain ⟨g0, h⟩ := gd_some h
    obtain ⟨q, h1, h2⟩ := bind_of h
    have e0 := beq1 g0
    subst e0
    obtain ⟨D', rfl⟩ : ∃ D', D = D' + 1 := ⟨D - 1, by omega⟩
    exact ⟨_, _, h2, run_X12_thinkOn  _ _ _ _ h1 D' (by omega)⟩
  · cases h

/-! HatRankModel ahead -/
noncomputable def tb_X12_ahead (cal : Cal SS) : List (Nat × Ins SS) := [(0, e_iload 2 1), (1, e_iconst (1) 2), (2, e_iconst (24) 4), (4, e_callS cal 149 3 7), (7, e_ifeq 41 10), (10, e_iload 4 12), (12, e_iconst (0) 13), (13, e_iconst (2) 14), (14, e_callS cal 149 3 17), (17, e_ifeq 41 20), (20, e_iload 4 22), (22, e_ifne 36 25), (25, e_aload 0 26), (26, e_iload 3 27), (27, e_callV opsS cal 151 1 12 30), (30, e_ifne 43 33), (33, e_goto 41), (36, e_iload 3 37), (37, e_iconst (-1) 38), (38, e_ceq 43 41), (41, e_iconst (-1) 42), (42, e_iret), (43, e_aload 0 44), (44, e_getI opsS 12 1 47), (47, e_iload 2 48), (48, e_bin aAdd 49), (49, e_iconst (24) 51), (51, e_cgt 67 54), (54, e_iload 4 56), (56, e_iconst (1) 57), (57, e_cne 70 60), (60, e_aload 0 61), (61, e_getI opsS 12 11 64), (64, e_ifne 70 67), (67, e_iconst (-5) 69), (69, e_iret), (70, e_aload 0 71), (71, e_iload 1 72), (72, e_iload 2 73), (73, e_callV opsS cal 216 2 12 76), (76, e_iload 4 78), (78, e_ifne 88 81), (81, e_aload 0 82), (82, e_getR opsS 12 36 85), (85, e_iload 3 86), (86, e_ald opsS 100 87), (87, e_iret), (88, e_iload 4 90), (90, e_iconst (1) 91), (91, e_cne 103 94), (94, e_aload 0 95), (95, e_aload 0 96), (96, e_getR opsS 12 36 99), (99, e_callV opsS cal 189 1 12 102), (102, e_iret), (103, e_iconst (0) 104), (104, e_istore 5 106), (106, e_iconst (0) 107), (107, e_istore 6 109), (109, e_iload 6 111), (111, e_aload 0 112), (112, e_getI opsS 12 4 115), (115, e_cge 136 118), (118, e_iload 5 120), (120, e_aload 0 121), (121, e_getR opsS 12 38 124), (124, e_iload 6 126), (126, e_ald opsS 100 127), (127, e_bin aAdd 128), (128, e_istore 5 130), (130, e_iinc 6 (1) 133), (133, e_goto 109), (136, e_iload 5 138), (138, e_iret)]
set_option maxRecDepth 100000 in
set_option maxHeartbeats 4000000 in
theorem tk_X12_ahead {ad0 : Nat → Nat} {G : Gm} {A : Nat → Prop} {p : Program} {l : Launch} {e : Env} {R : Room} {s0 : State} {m : MethodId} {args : Array Value} {below : List Frame} {meth : Method} {c : Code} {Q : State → Prop} {ρ : Type} {ret : Option Value → SS → Option ρ} {r : ρ} (X : Cx G A RX12 cX12_ahead 7 p s0 m args c) {D' : Nat} {cal : Cal SS} (hcal : calOK l G opsS D' cal) (hRm : ∀ k, k ≤ 21 → D' + 1 ≤ R.frames ∧ 8 + (k + 11) + 40 * D' ≤ R.locals) (hret : RetK G A cX12_ahead 113 6344 ad0 p l e R s0 m args below meth c Q opsS ret r .ireturn okI) : ∀ q ∈ tb_X12_ahead cal, OKi G A 7 113 6344 ad0 p l e R s0 m args below meth c Q opsS ret r q.1 q.2 :=
    okc (ok_iload_n (j := 2) X (by decide +kernel) rfl rfl) (
    okc (ok_iconst (n := 1) X (by decide +kernel) rfl rfl) (
    okc (ok_bipush (n := 24) X (by decide +kernel) rfl rfl) (
    okc (ok_callS (Y := (yX12_in, cX12_in, 3, (some .boolean))) X hcal opsS_n md_X12_in wc_X12_in wl_X12_134 wi_X12 ws_X12_in (by decide +kernel) (hRm 3 (by decide)) (by decide +kernel) rfl) (
    okc (ok_ifeq (off := 34) X (by decide +kernel) (by decide) rfl) (
    okc (ok_iload X (by decide +kernel) rfl) (
    okc (ok_iconst (n := 0) X (by decide +kernel) rfl rfl) (
    okc (ok_iconst (n := 2) X (by decide +kernel) rfl rfl) (
    okc (ok_callS (Y := (yX12_in, cX12_in, 3, (some .boolean))) X hcal opsS_n md_X12_in wc_X12_in wl_X12_134 wi_X12 ws_X12_in (by decide +kernel) (hRm 3 (by decide)) (by decide +kernel) rfl) (
    okc (ok_ifeq (off := 24) X (by decide +kernel) (by decide) rfl) (
    okc (ok_iload X (by decide +kernel) rfl) (
    okc (ok_ifne (off := 14) X (by decide +kernel) (by decide) rfl) (
    okc (ok_aload_n (j := 0) X (by decide +kernel) rfl rfl) (
    okc (ok_iload_n (j := 3) X (by decide +kernel) rfl rfl) (
    okc (ok_callV (ci := 12) (C := RX12) (T := TX12) (N := 63) (Y := (yX12_isPerson, cX12_isPerson, 2, (some .boolean))) X hcal opsS_n md_X12_isPerson rfl (by decide) rfl wc_X12_isPerson wl_X12_175 wi_X12 wm_X12_isPerson wv_X12_isPerson (by decide +kernel) (hRm 2 (by decide)) (by decide +kernel) rfl) (
    okc (ok_ifne (off := 13) X (by decide +kernel) (by decide) rfl) (
    okc (ok_goto (off := 8) X (by decide +kernel) (by decide)) (
    okc (ok_iload_n (j := 3) X (by decide +kernel) rfl rfl) (
    okc (ok_iconst (n := -1) X (by decide +kernel) rfl rfl) (
    okc (ok_ceq (off := 5) X (by decide +kernel) (by decide) rfl) (
    okc (ok_iconst (n := -1) X (by decide +kernel) rfl rfl) (
    okc (ok_iret hret (by decide +kernel)) (
    okc (ok_aload_n (j := 0) X (by decide +kernel) rfl rfl) (
    okc (ok_getI (ci := 12) (kf := 1) (idx := 272) (C := RX12) (T := TX12) (N := 63) X rfl (by decide) inX12 (by decide) wf_X12_272 (fun _ _ _ => rfl) (by decide +kernel) rfl) (
    okc (ok_iload_n (j := 2) X (by decide +kernel) rfl rfl) (
    okc (ok_iadd X (by decide +kernel) rfl) (
    okc (ok_bipush (n := 24) X (by decide +kernel) rfl rfl) (
    okc (ok_cgt (off := 16) X (by decide +kernel) (by decide) rfl) (
    okc (ok_iload X (by decide +kernel) rfl) (
    okc (ok_iconst (n := 1) X (by decide +kernel) rfl rfl) (
    okc (ok_cne (off := 13) X (by decide +kernel) (by decide) rfl) (
    okc (ok_aload_n (j := 0) X (by decide +kernel) rfl rfl) (
    okc (ok_getI (ci := 12) (kf := 11) (idx := 138) (C := RX12) (T := TX12) (N := 63) X rfl (by decide) inX12 (by decide) wf_X12_138 (fun _ _ _ => rfl) (by decide +kernel) rfl) (
    okc (ok_ifne (off := 6) X (by decide +kernel) (by decide) rfl) (
    okc (ok_bipush (n := -5) X (by decide +kernel) rfl rfl) (
    okc (ok_iret hret (by decide +kernel)) (
    okc (ok_aload_n (j := 0) X (by decide +kernel) rfl rfl) (
    okc (ok_iload_n (j := 1) X (by decide +kernel) rfl rfl) (
    okc (ok_iload_n (j := 2) X (by decide +kernel) rfl rfl) (
    okc (ok_callV (ci := 12) (C := RX12) (T := TX12) (N := 63) (Y := (yX12_thinkOn, cX12_thinkOn, 4, none)) X hcal opsS_n md_X12_thinkOn rfl (by decide) rfl wc_X12_thinkOn wl_X12_358 wi_X12 wm_X12_thinkOn wv_X12_thinkOn (by decide +kernel) (hRm 4 (by decide)) (by decide +kernel) rfl) (
    okc (ok_iload X (by decide +kernel) rfl) (
    okc (ok_ifne (off := 10) X (by decide +kernel) (by decide) rfl) (
    okc (ok_aload_n (j := 0) X (by decide +kernel) rfl rfl) (
    okc (ok_getR (ci := 12) (kf := 36) (idx := 78) (C := RX12) (T := TX12) (N := 63) X rfl (by decide) inX12 (by decide) wf_X12_78 (fun _ _ _ => rfl) (by decide +kernel) rfl) (
    okc (ok_iload_n (j := 3) X (by decide +kernel) rfl rfl) (
    okc (ok_iald X (by decide +kernel) rfl) (
    okc (ok_iret hret (by decide +kernel)) (
    okc (ok_iload X (by decide +kernel) rfl) (
    okc (ok_iconst (n := 1) X (by decide +kernel) rfl rfl) (
    okc (ok_cne (off := 12) X (by decide +kernel) (by decide) rfl) (
    okc (ok_aload_n (j := 0) X (by decide +kernel) rfl rfl) (
    okc (ok_aload_n (j := 0) X (by decide +kernel) rfl rfl) (
    okc (ok_getR (ci := 12) (kf := 36) (idx := 78) (C := RX12) (T := TX12) (N := 63) X rfl (by decide) inX12 (by decide) wf_X12_78 (fun _ _ _ => rfl) (by decide +kernel) rfl) (
    okc (ok_callV (ci := 12) (C := RX12) (T := TX12) (N := 63) (Y := (yX12_firstOf, cX12_firstOf, 3, (some .int))) X hcal opsS_n md_X12_firstOf rfl (by decide) rfl wc_X12_firstOf wl_X12_298 wi_X12 wm_X12_firstOf wv_X12_firstOf (by decide +kernel) (hRm 3 (by decide)) (by decide +kernel) rfl) (
    okc (ok_iret hret (by decide +kernel)) (
    okc (ok_iconst (n := 0) X (by decide +kernel) rfl rfl) (
    okc (ok_istore X (by decide +kernel) rfl) (
    okc (ok_iconst (n := 0) X (by decide +kernel) rfl rfl) (
    okc (ok_istore X (by decide +kernel) rfl) (
    okc (ok_iload X (by decide +kernel) rfl) (
    okc (ok_aload_n (j := 0) X (by decide +kernel) rfl rfl) (
    okc (ok_getI (ci := 12) (kf := 4) (idx := 131) (C := RX12) (T := TX12) (N := 63) X rfl (by decide) inX12 (by decide) wf_X12_131 (fun _ _ _ => rfl) (by decide +kernel) rfl) (
    okc (ok_cge (off := 21) X (by decide +kernel) (by decide) rfl) (
    okc (ok_iload X (by decide +kernel) rfl) (
    okc (ok_aload_n (j := 0) X (by decide +kernel) rfl rfl) (
    okc (ok_getR (ci := 12) (kf := 38) (idx := 84) (C := RX12) (T := TX12) (N := 63) X rfl (by decide) inX12 (by decide) wf_X12_84 (fun _ _ _ => rfl) (by decide +kernel) rfl) (
    okc (ok_iload X (by decide +kernel) rfl) (
    okc (ok_iald X (by decide +kernel) rfl) (
    okc (ok_iadd X (by decide +kernel) rfl) (
    okc (ok_istore X (by decide +kernel) rfl) (
    okc (ok_iinc (n := 1) X (by decide +kernel) rfl rfl) (
    okc (ok_goto (off := -24) X (by decide +kernel) (by decide)) (
    okc (ok_iload X (by decide +kernel) rfl) (
    okc (ok_iret hret (by decide +kernel)) (
    okn))))))))))))))))))))))))))))))))))))))))))))))))))))))))))))))))))))))))))
noncomputable def es_X12_ahead  : List (Nat × En) := [(149, en_X12_in), (151, en_X12_isPerson), (216, en_X12_thinkOn), (189, en_X12_firstOf)]
noncomputable def ka_X12_ahead_109   (n : Nat) : Kn SS (Int32 × SS) := fun pc ls st s => bif Nat.beq pc 109 then (match ls, st with
    | [some y0, _, _, _, _, some (.int x5), some (.int x6)], [] => (gd (veq y0 (.ref 74)) (F_X12_ahead_109 n x5 x6 s))
    | _, _ => none) else (none)
set_option maxRecDepth 100000 in
set_option maxHeartbeats 4000000 in
theorem eq_X12_ahead_109    (n : Nat) (x5 : Int32) (x6 : Int32) (s : SS) : ex (tb_X12_ahead (calE (es_X12_ahead))) rI [109] (ka_X12_ahead_109   n) 76 109 [some (.ref 74), none, none, none, none, some (.int x5), some (.int x6)] [] s = F_X12_ahead_109   (n + 1) x5 x6 s := by
  rfl
set_option maxRecDepth 100000 in
set_option maxHeartbeats 4000000 in
theorem gd_X12_ahead_109 {ad0 : Nat → Nat} {G : Gm} {A : Nat → Prop} {p : Program} {l : Launch} {e : Env} {R : Room} {s0 : State} {m : MethodId} {args : Array Value} {below : List Frame} {meth : Method} {c : Code} {Q : State → Prop} {r : (Int32 × SS)}   (hT : ∀ q ∈ tb_X12_ahead (calE (es_X12_ahead)), OKi G A 7 113 6344 ad0 p l e R s0 m args below meth c Q opsS rI r q.1 q.2)   : ∀ (n : Nat) (x5 : Int32) (x6 : Int32) (s : SS), F_X12_ahead_109   n x5 x6 s = some r → Gd G A 7 113 6344 ad0 p l e R s0 m args below meth c Q opsS 109 [some (.ref 74), none, none, none, none, some (.int x5), some (.int x6)] [] s := by
  intro n
  induction n with
  | zero =>
    intro x5 x6 s hh
    exact absurd (show (none : Option (Int32 × SS)) = some r from hh) (by simp)
  | succ n ih =>
    intro x5 x6 s hh
    rw [← eq_X12_ahead_109    n x5 x6 s] at hh
    refine ex_good hT (fun pc' ls' st' x' hh => ?_) 76 109 _ [] s hh
    unfold ka_X12_ahead_109 at hh
    cases hb : Nat.beq pc' 109 with
    | true =>
      rw [hb] at hh
      have e9 := beq1 hb
      subst e9
      simp only [cond_true] at hh
      split at hh
      · obtain ⟨g0, hh1⟩ := gd_some hh
        have e0 := veq_of g0
        subst e0
        exact Gd.wk (ih _ _ _ hh1) (Lle.eq (Lle.no (Lle.no (Lle.no (Lle.no (Lle.eq (Lle.eq Lle.nil)))))))
      · cases hh
    | false =>
      rw [hb] at hh
      simp only [cond_false] at hh
      cases hh

noncomputable def ka_X12_ahead  : Kn SS (Int32 × SS) := fun pc ls st s => bif Nat.beq pc 109 then (match ls, st with
    | [some y0, _, _, _, _, some (.int x5), some (.int x6)], [] => (gd (veq y0 (.ref 74)) (F_X12_ahead_109 fuel0 x5 x6 s))
    | _, _ => none) else (none)
set_option maxRecDepth 100000 in
set_option maxHeartbeats 4000000 in
theorem eq_X12_ahead   (a0 : Int32) (a1 : Int32) (a2 : Int32) (a3 : Int32) (s : SS) : ex (tb_X12_ahead (calE (es_X12_ahead))) rI [109] (ka_X12_ahead ) 76 0 [some (.ref 74), some (.int a0), some (.int a1), some (.int a2), some (.int a3), none, none] [] s = f_X12_ahead a0 a1 a2 a3 s := by
  rfl
set_option maxRecDepth 100000 in
set_option maxHeartbeats 4000000 in
theorem run_X12_ahead {l : Launch} {G : Gm}   (a0 : Int32) (a1 : Int32) (a2 : Int32) (a3 : Int32) (s : SS) (q : (Int32 × SS)) (h : f_X12_ahead a0 a1 a2 a3 s = some q) (D' : Nat) (hD : 7 ≤ D') : RunsM l G (D' + 1) (md 217) (embS s) [.ref 74, .int a0, .int a1, .int a2, .int a3] (some (.int q.1)) (embS q.2) := by
  rw [md_X12_ahead]
  refine runs_I (plainFor_of_name (by decide +kernel)) (Nat.le_of_ble_eq_true rfl) rfl ?_
  intro A p e R s0 m args below meth c Q ad0 hR X hret
  have X : Cx G A RX12 cX12_ahead 7 p s0 m args c := X
  have hT := tk_X12_ahead X (calE_ok (es := es_X12_ahead) (enc (en_X12_in_ok _ (by omega)) (enc (en_X12_isPerson_ok _ (by omega)) (enc (en_X12_thinkOn_ok _ (by omega)) (enc (en_X12_firstOf_ok _ (by omega)) (enn)))))) (rmD rfl hR) hret
  rw [← eq_X12_ahead   a0 a1 a2 a3 s] at h
  refine ex_good hT (fun pc' ls' st' x' hh => ?_) 76 0 _ [] s h
  unfold ka_X12_ahead at hh
  cases hb : Nat.beq pc' 109 with
  | true =>
    rw [hb] at hh
    have e9 := beq1 hb
    subst e9
    simp only [cond_true] at hh
    split at hh
    · obtain ⟨g0, hh1⟩ := gd_some hh
      have e0 := veq_of g0
      subst e0
      exact Gd.wk (gd_X12_ahead_109 hT  _ _ _ _ hh1) (Lle.eq (Lle.no (Lle.no (Lle.no (Lle.no (Lle.eq (Lle.eq Lle.nil)))))))
    · cases hh
  | false =>
    rw [hb] at hh
    simp only [cond_false] at hh
    cases hh

noncomputable def en_X12_ahead  : En := fun _ av s k => match av with
  | [.ref r0, .int a0, .int a1, .int a2, .int a3] => (gd (Nat.beq r0 74) (bI (f_X12_ahead a0 a1 a2 a3 s) k))
  | _ => none
set_option maxRecDepth 100000 in
set_option maxHeartbeats 4000000 in
theorem en_X12_ahead_ok {l : Launch} {G : Gm} (D : Nat) (hD : 8 ≤ D) : enOK l G D 217 en_X12_ahead := by
  intro ρ av x k r h
  unfold en_X12_ahead at h
  split at h
  · obtain ⟨g0, h⟩ := gd_some h
    obtain ⟨q, h1, h2⟩ := bind_of h
    have e0 := beq1 g0
    subst e0
    obtain ⟨D', rfl⟩ : ∃ D', D = D' + 1 := ⟨D - 1, by omega⟩
    exact ⟨_, _, h2, run_X12_ahead  _ _ _ _ _ _ h1 D' (by omega)⟩
  · cases h

/-! HatRankModel storm -/
noncomputable def tb_X12_storm (cal : Cal SS) : List (Nat × Ins SS) := [(0, e_aload 0 1), (1, e_getI opsS 12 11 4), (4, e_ifne 10 7), (7, e_iconst (-5) 9), (9, e_iret), (10, e_iconst (-2) 12), (12, e_istore 2 13), (13, e_iconst (0) 14), (14, e_istore 3 15), (15, e_iload 3 16), (16, e_iconst (20) 18), (18, e_cgt 69 21), (21, e_iload 2 22), (22, e_ifge 69 25), (25, e_aload 0 26), (26, e_iload 3 27), (27, e_putI opsS 12 3 30), (30, e_aload 0 31), (31, e_iload 1 32), (32, e_iconst (24) 34), (34, e_aload 0 35), (35, e_getI opsS 12 1 38), (38, e_bin aSub 39), (39, e_callV opsS cal 216 2 12 42), (42, e_aload 0 43), (43, e_aload 0 44), (44, e_getR opsS 12 36 47), (47, e_callV opsS cal 189 1 12 50), (50, e_aload 0 51), (51, e_aload 0 52), (52, e_getR opsS 12 12 55), (55, e_callV opsS cal 189 1 12 58), (58, e_ceq 63 61), (61, e_iload 3 62), (62, e_istore 2 63), (63, e_iinc 3 (1) 66), (66, e_goto 15), (69, e_aload 0 70), (70, e_iconst (0) 71), (71, e_putI opsS 12 3 74), (74, e_iload 2 75), (75, e_iret)]
set_option maxRecDepth 100000 in
set_option maxHeartbeats 4000000 in
theorem tk_X12_storm {ad0 : Nat → Nat} {G : Gm} {A : Nat → Prop} {p : Program} {l : Launch} {e : Env} {R : Room} {s0 : State} {m : MethodId} {args : Array Value} {below : List Frame} {meth : Method} {c : Code} {Q : State → Prop} {ρ : Type} {ret : Option Value → SS → Option ρ} {r : ρ} (X : Cx G A RX12 cX12_storm 4 p s0 m args c) {D' : Nat} {cal : Cal SS} (hcal : calOK l G opsS D' cal) (hRm : ∀ k, k ≤ 21 → D' + 1 ≤ R.frames ∧ 8 + (k + 11) + 40 * D' ≤ R.locals) (hret : RetK G A cX12_storm 113 6344 ad0 p l e R s0 m args below meth c Q opsS ret r .ireturn okI) : ∀ q ∈ tb_X12_storm cal, OKi G A 4 113 6344 ad0 p l e R s0 m args below meth c Q opsS ret r q.1 q.2 :=
    okc (ok_aload_n (j := 0) X (by decide +kernel) rfl rfl) (
    okc (ok_getI (ci := 12) (kf := 11) (idx := 138) (C := RX12) (T := TX12) (N := 63) X rfl (by decide) inX12 (by decide) wf_X12_138 (fun _ _ _ => rfl) (by decide +kernel) rfl) (
    okc (ok_ifne (off := 6) X (by decide +kernel) (by decide) rfl) (
    okc (ok_bipush (n := -5) X (by decide +kernel) rfl rfl) (
    okc (ok_iret hret (by decide +kernel)) (
    okc (ok_bipush (n := -2) X (by decide +kernel) rfl rfl) (
    okc (ok_istore_n (j := 2) X (by decide +kernel) rfl rfl) (
    okc (ok_iconst (n := 0) X (by decide +kernel) rfl rfl) (
    okc (ok_istore_n (j := 3) X (by decide +kernel) rfl rfl) (
    okc (ok_iload_n (j := 3) X (by decide +kernel) rfl rfl) (
    okc (ok_bipush (n := 20) X (by decide +kernel) rfl rfl) (
    okc (ok_cgt (off := 51) X (by decide +kernel) (by decide) rfl) (
    okc (ok_iload_n (j := 2) X (by decide +kernel) rfl rfl) (
    okc (ok_ifge (off := 47) X (by decide +kernel) (by decide) rfl) (
    okc (ok_aload_n (j := 0) X (by decide +kernel) rfl rfl) (
    okc (ok_iload_n (j := 3) X (by decide +kernel) rfl rfl) (
    okc (ok_putI (ci := 12) (kf := 3) (idx := 255) (C := RX12) (T := TX12) (N := 63) X opsS_ok rfl (by decide) inX12 tyX12_ok nmX12 (by decide) wf_X12_255 rfl (fun _ _ _ => rfl) (by decide +kernel) (by decide +kernel) rfl) (
    okc (ok_aload_n (j := 0) X (by decide +kernel) rfl rfl) (
    okc (ok_iload_n (j := 1) X (by decide +kernel) rfl rfl) (
    okc (ok_bipush (n := 24) X (by decide +kernel) rfl rfl) (
    okc (ok_aload_n (j := 0) X (by decide +kernel) rfl rfl) (
    okc (ok_getI (ci := 12) (kf := 1) (idx := 272) (C := RX12) (T := TX12) (N := 63) X rfl (by decide) inX12 (by decide) wf_X12_272 (fun _ _ _ => rfl) (by decide +kernel) rfl) (
    okc (ok_isub X (by decide +kernel) rfl) (
    okc (ok_callV (ci := 12) (C := RX12) (T := TX12) (N := 63) (Y := (yX12_thinkOn, cX12_thinkOn, 4, none)) X hcal opsS_n md_X12_thinkOn rfl (by decide) rfl wc_X12_thinkOn wl_X12_358 wi_X12 wm_X12_thinkOn wv_X12_thinkOn (by decide +kernel) (hRm 4 (by decide)) (by decide +kernel) rfl) (
    okc (ok_aload_n (j := 0) X (by decide +kernel) rfl rfl) (
    okc (ok_aload_n (j := 0) X (by decide +kernel) rfl rfl) (
    okc (ok_getR (ci := 12) (kf := 36) (idx := 78) (C := RX12) (T := TX12) (N := 63) X rfl (by decide) inX12 (by decide) wf_X12_78 (fun _ _ _ => rfl) (by decide +kernel) rfl) (
    okc (ok_callV (ci := 12) (C := RX12) (T := TX12) (N := 63) (Y := (yX12_firstOf, cX12_firstOf, 3, (some .int))) X hcal opsS_n md_X12_firstOf rfl (by decide) rfl wc_X12_firstOf wl_X12_298 wi_X12 wm_X12_firstOf wv_X12_firstOf (by decide +kernel) (hRm 3 (by decide)) (by decide +kernel) rfl) (
    okc (ok_aload_n (j := 0) X (by decide +kernel) rfl rfl) (
    okc (ok_aload_n (j := 0) X (by decide +kernel) rfl rfl) (
    okc (ok_getR (ci := 12) (kf := 12) (idx := 28) (C := RX12) (T := TX12) (N := 63) X rfl (by decide) inX12 (by decide) wf_X12_28 (fun _ _ _ => rfl) (by decide +kernel) rfl) (
    okc (ok_callV (ci := 12) (C := RX12) (T := TX12) (N := 63) (Y := (yX12_firstOf, cX12_firstOf, 3, (some .int))) X hcal opsS_n md_X12_firstOf rfl (by decide) rfl wc_X12_firstOf wl_X12_298 wi_X12 wm_X12_firstOf wv_X12_firstOf (by decide +kernel) (hRm 3 (by decide)) (by decide +kernel) rfl) (
    okc (ok_ceq (off := 5) X (by decide +kernel) (by decide) rfl) (
    okc (ok_iload_n (j := 3) X (by decide +kernel) rfl rfl) (
    okc (ok_istore_n (j := 2) X (by decide +kernel) rfl rfl) (
    okc (ok_iinc (n := 1) X (by decide +kernel) rfl rfl) (
    okc (ok_goto (off := -51) X (by decide +kernel) (by decide)) (
    okc (ok_aload_n (j := 0) X (by decide +kernel) rfl rfl) (
    okc (ok_iconst (n := 0) X (by decide +kernel) rfl rfl) (
    okc (ok_putI (ci := 12) (kf := 3) (idx := 255) (C := RX12) (T := TX12) (N := 63) X opsS_ok rfl (by decide) inX12 tyX12_ok nmX12 (by decide) wf_X12_255 rfl (fun _ _ _ => rfl) (by decide +kernel) (by decide +kernel) rfl) (
    okc (ok_iload_n (j := 2) X (by decide +kernel) rfl rfl) (
    okc (ok_iret hret (by decide +kernel)) (
    okn))))))))))))))))))))))))))))))))))))))))))
noncomputable def es_X12_storm  : List (Nat × En) := [(216, en_X12_thinkOn), (189, en_X12_firstOf)]
noncomputable def ka_X12_storm_15   (n : Nat) : Kn SS (Int32 × SS) := fun pc ls st s => bif Nat.beq pc 15 then (match ls, st with
    | [some y0, some (.int x1), some (.int x2), some (.int x3)], [] => (gd (veq y0 (.ref 74)) (F_X12_storm_15 n x1 x2 x3 s))
    | _, _ => none) else (none)
set_option maxRecDepth 100000 in
set_option maxHeartbeats 4000000 in
theorem eq_X12_storm_15    (n : Nat) (x1 : Int32) (x2 : Int32) (x3 : Int32) (s : SS) : ex (tb_X12_storm (calE (es_X12_storm))) rI [15] (ka_X12_storm_15   n) 44 15 [some (.ref 74), some (.int x1), some (.int x2), some (.int x3)] [] s = F_X12_storm_15   (n + 1) x1 x2 x3 s := by
  rfl
set_option maxRecDepth 100000 in
set_option maxHeartbeats 4000000 in
theorem gd_X12_storm_15 {ad0 : Nat → Nat} {G : Gm} {A : Nat → Prop} {p : Program} {l : Launch} {e : Env} {R : Room} {s0 : State} {m : MethodId} {args : Array Value} {below : List Frame} {meth : Method} {c : Code} {Q : State → Prop} {r : (Int32 × SS)}   (hT : ∀ q ∈ tb_X12_storm (calE (es_X12_storm)), OKi G A 4 113 6344 ad0 p l e R s0 m args below meth c Q opsS rI r q.1 q.2)   : ∀ (n : Nat) (x1 : Int32) (x2 : Int32) (x3 : Int32) (s : SS), F_X12_storm_15   n x1 x2 x3 s = some r → Gd G A 4 113 6344 ad0 p l e R s0 m args below meth c Q opsS 15 [some (.ref 74), some (.int x1), some (.int x2), some (.int x3)] [] s := by
  intro n
  induction n with
  | zero =>
    intro x1 x2 x3 s hh
    exact absurd (show (none : Option (Int32 × SS)) = some r from hh) (by simp)
  | succ n ih =>
    intro x1 x2 x3 s hh
    rw [← eq_X12_storm_15    n x1 x2 x3 s] at hh
    refine ex_good hT (fun pc' ls' st' x' hh => ?_) 44 15 _ [] s hh
    unfold ka_X12_storm_15 at hh
    cases hb : Nat.beq pc' 15 with
    | true =>
      rw [hb] at hh
      have e9 := beq1 hb
      subst e9
      simp only [cond_true] at hh
      split at hh
      · obtain ⟨g0, hh1⟩ := gd_some hh
        have e0 := veq_of g0
        subst e0
        exact Gd.wk (ih _ _ _ _ hh1) (Lle.eq (Lle.eq (Lle.eq (Lle.eq Lle.nil))))
      · cases hh
    | false =>
      rw [hb] at hh
      simp only [cond_false] at hh
      cases hh

noncomputable def ka_X12_storm  : Kn SS (Int32 × SS) := fun pc ls st s => bif Nat.beq pc 15 then (match ls, st with
    | [some y0, some (.int x1), some (.int x2), some (.int x3)], [] => (gd (veq y0 (.ref 74)) (F_X12_storm_15 fuel0 x1 x2 x3 s))
    | _, _ => none) else (none)
set_option maxRecDepth 100000 in
set_option maxHeartbeats 4000000 in
theorem eq_X12_storm   (a0 : Int32) (s : SS) : ex (tb_X12_storm (calE (es_X12_storm))) rI [15] (ka_X12_storm ) 44 0 [some (.ref 74), some (.int a0), none, none] [] s = f_X12_storm a0 s := by
  rfl
set_option maxRecDepth 100000 in
set_option maxHeartbeats 4000000 in
theorem run_X12_storm {l : Launch} {G : Gm}   (a0 : Int32) (s : SS) (q : (Int32 × SS)) (h : f_X12_storm a0 s = some q) (D' : Nat) (hD : 7 ≤ D') : RunsM l G (D' + 1) (md 218) (embS s) [.ref 74, .int a0] (some (.int q.1)) (embS q.2) := by
  rw [md_X12_storm]
  refine runs_I (plainFor_of_name (by decide +kernel)) (Nat.le_of_ble_eq_true rfl) rfl ?_
  intro A p e R s0 m args below meth c Q ad0 hR X hret
  have X : Cx G A RX12 cX12_storm 4 p s0 m args c := X
  have hT := tk_X12_storm X (calE_ok (es := es_X12_storm) (enc (en_X12_thinkOn_ok _ (by omega)) (enc (en_X12_firstOf_ok _ (by omega)) (enn)))) (rmD rfl hR) hret
  rw [← eq_X12_storm   a0 s] at h
  refine ex_good hT (fun pc' ls' st' x' hh => ?_) 44 0 _ [] s h
  unfold ka_X12_storm at hh
  cases hb : Nat.beq pc' 15 with
  | true =>
    rw [hb] at hh
    have e9 := beq1 hb
    subst e9
    simp only [cond_true] at hh
    split at hh
    · obtain ⟨g0, hh1⟩ := gd_some hh
      have e0 := veq_of g0
      subst e0
      exact Gd.wk (gd_X12_storm_15 hT  _ _ _ _ _ hh1) (Lle.eq (Lle.eq (Lle.eq (Lle.eq Lle.nil))))
    · cases hh
  | false =>
    rw [hb] at hh
    simp only [cond_false] at hh
    cases hh

noncomputable def en_X12_storm  : En := fun _ av s k => match av with
  | [.ref r0, .int a0] => (gd (Nat.beq r0 74) (bI (f_X12_storm a0 s) k))
  | _ => none
set_option maxRecDepth 100000 in
set_option maxHeartbeats 4000000 in
theorem en_X12_storm_ok {l : Launch} {G : Gm} (D : Nat) (hD : 8 ≤ D) : enOK l G D 218 en_X12_storm := by
  intro ρ av x k r h
  unfold en_X12_storm at h
  split at h
  · obtain ⟨g0, h⟩ := gd_some h
    obtain ⟨q, h1, h2⟩ := bind_of h
    have e0 := beq1 g0
    subst e0
    obtain ⟨D', rfl⟩ : ∃ D', D = D' + 1 := ⟨D - 1, by omega⟩
    exact ⟨_, _, h2, run_X12_storm  _ _ _ h1 D' (by omega)⟩
  · cases h

/-! HatRankModel seeded -/
noncomputable def tb_X12_seeded (cal : Cal SS) : List (Nat × Ins SS) := [(0, e_iload 1 1), (1, e_callS cal 240 1 4), (4, e_ifeq 17 7), (7, e_iload 2 8), (8, e_iconst (0) 9), (9, e_iconst (24) 11), (11, e_callS cal 149 3 14), (14, e_ifne 19 17), (17, e_iconst (-1) 18), (18, e_iret), (19, e_aload 0 20), (20, e_getR opsS 12 59 23), (23, e_iload 1 24), (24, e_ald opsS 100 25), (25, e_iconst (-1) 26), (26, e_cne 32 29), (29, e_iconst (-11) 31), (31, e_iret), (32, e_aload 0 33), (33, e_getR opsS 12 59 36), (36, e_iload 1 37), (37, e_ald opsS 100 38), (38, e_iconst (-2) 40), (40, e_ceq 46 43), (43, e_iconst (-12) 45), (45, e_iret), (46, e_aload 0 47), (47, e_getI opsS 12 1 50), (50, e_iload 2 51), (51, e_bin aAdd 52), (52, e_iconst (24) 54), (54, e_cle 60 57), (57, e_iconst (-5) 59), (59, e_iret), (60, e_iconst (0) 61), (61, e_istore 3 62), (62, e_iload 3 63), (63, e_iconst (100) 65), (65, e_cge 155 68), (68, e_aload 0 69), (69, e_iload 3 70), (70, e_iload 2 71), (71, e_callV opsS cal 216 2 12 74), (74, e_iconst (1) 75), (75, e_istore 4 77), (77, e_iconst (0) 78), (78, e_istore 5 80), (80, e_iload 5 82), (82, e_aload 0 83), (83, e_getI opsS 12 11 86), (86, e_cge 142 89), (89, e_iload 5 91), (91, e_aload 0 92), (92, e_getR opsS 12 60 95), (95, e_iload 1 96), (96, e_ald opsS 100 97), (97, e_cge 142 100), (100, e_iload 4 102), (102, e_ifeq 133 105), (105, e_aload 0 106), (106, e_getR opsS 12 61 109), (109, e_iconst (60) 111), (111, e_iload 1 112), (112, e_bin aMul 113), (113, e_iload 5 115), (115, e_bin aAdd 116), (116, e_lald opsS 117), (117, e_aload 0 118), (118, e_getR opsS 12 36 121), (121, e_iload 5 123), (123, e_ald opsS 100 124), (124, e_i2l 125), (125, e_lcmp 126), (126, e_ifne 133 129), (129, e_iconst (1) 130), (130, e_goto 134), (133, e_iconst (0) 134), (134, e_istore 4 136), (136, e_iinc 5 (1) 139), (139, e_goto 80), (142, e_iload 4 144), (144, e_ifeq 149 147), (147, e_iload 3 148), (148, e_iret), (149, e_iinc 3 (1) 152), (152, e_goto 62), (155, e_iconst (-2) 157), (157, e_iret)]
set_option maxRecDepth 100000 in
set_option maxHeartbeats 4000000 in
theorem tk_X12_seeded {ad0 : Nat → Nat} {G : Gm} {A : Nat → Prop} {p : Program} {l : Launch} {e : Env} {R : Room} {s0 : State} {m : MethodId} {args : Array Value} {below : List Frame} {meth : Method} {c : Code} {Q : State → Prop} {ρ : Type} {ret : Option Value → SS → Option ρ} {r : ρ} (X : Cx G A RX12 cX12_seeded 6 p s0 m args c) {D' : Nat} {cal : Cal SS} (hcal : calOK l G opsS D' cal) (hRm : ∀ k, k ≤ 21 → D' + 1 ≤ R.frames ∧ 8 + (k + 11) + 40 * D' ≤ R.locals) (hret : RetK G A cX12_seeded 113 6344 ad0 p l e R s0 m args below meth c Q opsS ret r .ireturn okI) : ∀ q ∈ tb_X12_seeded cal, OKi G A 6 113 6344 ad0 p l e R s0 m args below meth c Q opsS ret r q.1 q.2 :=
    okc (ok_iload_n (j := 1) X (by decide +kernel) rfl rfl) (
    okc (ok_callS (Y := (yX12_isShelf, cX12_isShelf, 1, (some .boolean))) X hcal opsS_n md_X12_isShelf wc_X12_isShelf wl_X12_156 wi_X12 ws_X12_isShelf (by decide +kernel) (hRm 1 (by decide)) (by decide +kernel) rfl) (
    okc (ok_ifeq (off := 13) X (by decide +kernel) (by decide) rfl) (
    okc (ok_iload_n (j := 2) X (by decide +kernel) rfl rfl) (
    okc (ok_iconst (n := 0) X (by decide +kernel) rfl rfl) (
    okc (ok_bipush (n := 24) X (by decide +kernel) rfl rfl) (
    okc (ok_callS (Y := (yX12_in, cX12_in, 3, (some .boolean))) X hcal opsS_n md_X12_in wc_X12_in wl_X12_134 wi_X12 ws_X12_in (by decide +kernel) (hRm 3 (by decide)) (by decide +kernel) rfl) (
    okc (ok_ifne (off := 5) X (by decide +kernel) (by decide) rfl) (
    okc (ok_iconst (n := -1) X (by decide +kernel) rfl rfl) (
    okc (ok_iret hret (by decide +kernel)) (
    okc (ok_aload_n (j := 0) X (by decide +kernel) rfl rfl) (
    okc (ok_getR (ci := 12) (kf := 59) (idx := 114) (C := RX12) (T := TX12) (N := 63) X rfl (by decide) inX12 (by decide) wf_X12_114 (fun _ _ _ => rfl) (by decide +kernel) rfl) (
    okc (ok_iload_n (j := 1) X (by decide +kernel) rfl rfl) (
    okc (ok_iald X (by decide +kernel) rfl) (
    okc (ok_iconst (n := -1) X (by decide +kernel) rfl rfl) (
    okc (ok_cne (off := 6) X (by decide +kernel) (by decide) rfl) (
    okc (ok_bipush (n := -11) X (by decide +kernel) rfl rfl) (
    okc (ok_iret hret (by decide +kernel)) (
    okc (ok_aload_n (j := 0) X (by decide +kernel) rfl rfl) (
    okc (ok_getR (ci := 12) (kf := 59) (idx := 114) (C := RX12) (T := TX12) (N := 63) X rfl (by decide) inX12 (by decide) wf_X12_114 (fun _ _ _ => rfl) (by decide +kernel) rfl) (
    okc (ok_iload_n (j := 1) X (by decide +kernel) rfl rfl) (
    okc (ok_iald X (by decide +kernel) rfl) (
    okc (ok_bipush (n := -2) X (by decide +kernel) rfl rfl) (
    okc (ok_ceq (off := 6) X (by decide +kernel) (by decide) rfl) (
    okc (ok_bipush (n := -12) X (by decide +kernel) rfl rfl) (
    okc (ok_iret hret (by decide +kernel)) (
    okc (ok_aload_n (j := 0) X (by decide +kernel) rfl rfl) (
    okc (ok_getI (ci := 12) (kf := 1) (idx := 272) (C := RX12) (T := TX12) (N := 63) X rfl (by decide) inX12 (by decide) wf_X12_272 (fun _ _ _ => rfl) (by decide +kernel) rfl) (
    okc (ok_iload_n (j := 2) X (by decide +kernel) rfl rfl) (
    okc (ok_iadd X (by decide +kernel) rfl) (
    okc (ok_bipush (n := 24) X (by decide +kernel) rfl rfl) (
    okc (ok_cle (off := 6) X (by decide +kernel) (by decide) rfl) (
    okc (ok_bipush (n := -5) X (by decide +kernel) rfl rfl) (
    okc (ok_iret hret (by decide +kernel)) (
    okc (ok_iconst (n := 0) X (by decide +kernel) rfl rfl) (
    okc (ok_istore_n (j := 3) X (by decide +kernel) rfl rfl) (
    okc (ok_iload_n (j := 3) X (by decide +kernel) rfl rfl) (
    okc (ok_bipush (n := 100) X (by decide +kernel) rfl rfl) (
    okc (ok_cge (off := 90) X (by decide +kernel) (by decide) rfl) (
    okc (ok_aload_n (j := 0) X (by decide +kernel) rfl rfl) (
    okc (ok_iload_n (j := 3) X (by decide +kernel) rfl rfl) (
    okc (ok_iload_n (j := 2) X (by decide +kernel) rfl rfl) (
    okc (ok_callV (ci := 12) (C := RX12) (T := TX12) (N := 63) (Y := (yX12_thinkOn, cX12_thinkOn, 4, none)) X hcal opsS_n md_X12_thinkOn rfl (by decide) rfl wc_X12_thinkOn wl_X12_358 wi_X12 wm_X12_thinkOn wv_X12_thinkOn (by decide +kernel) (hRm 4 (by decide)) (by decide +kernel) rfl) (
    okc (ok_iconst (n := 1) X (by decide +kernel) rfl rfl) (
    okc (ok_istore X (by decide +kernel) rfl) (
    okc (ok_iconst (n := 0) X (by decide +kernel) rfl rfl) (
    okc (ok_istore X (by decide +kernel) rfl) (
    okc (ok_iload X (by decide +kernel) rfl) (
    okc (ok_aload_n (j := 0) X (by decide +kernel) rfl rfl) (
    okc (ok_getI (ci := 12) (kf := 11) (idx := 138) (C := RX12) (T := TX12) (N := 63) X rfl (by decide) inX12 (by decide) wf_X12_138 (fun _ _ _ => rfl) (by decide +kernel) rfl) (
    okc (ok_cge (off := 56) X (by decide +kernel) (by decide) rfl) (
    okc (ok_iload X (by decide +kernel) rfl) (
    okc (ok_aload_n (j := 0) X (by decide +kernel) rfl rfl) (
    okc (ok_getR (ci := 12) (kf := 60) (idx := 117) (C := RX12) (T := TX12) (N := 63) X rfl (by decide) inX12 (by decide) wf_X12_117 (fun _ _ _ => rfl) (by decide +kernel) rfl) (
    okc (ok_iload_n (j := 1) X (by decide +kernel) rfl rfl) (
    okc (ok_iald X (by decide +kernel) rfl) (
    okc (ok_cge (off := 45) X (by decide +kernel) (by decide) rfl) (
    okc (ok_iload X (by decide +kernel) rfl) (
    okc (ok_ifeq (off := 31) X (by decide +kernel) (by decide) rfl) (
    okc (ok_aload_n (j := 0) X (by decide +kernel) rfl rfl) (
    okc (ok_getR (ci := 12) (kf := 61) (idx := 120) (C := RX12) (T := TX12) (N := 63) X rfl (by decide) inX12 (by decide) wf_X12_120 (fun _ _ _ => rfl) (by decide +kernel) rfl) (
    okc (ok_bipush (n := 60) X (by decide +kernel) rfl rfl) (
    okc (ok_iload_n (j := 1) X (by decide +kernel) rfl rfl) (
    okc (ok_imul X (by decide +kernel) rfl) (
    okc (ok_iload X (by decide +kernel) rfl) (
    okc (ok_iadd X (by decide +kernel) rfl) (
    okc (ok_lald X (by decide +kernel) rfl) (
    okc (ok_aload_n (j := 0) X (by decide +kernel) rfl rfl) (
    okc (ok_getR (ci := 12) (kf := 36) (idx := 78) (C := RX12) (T := TX12) (N := 63) X rfl (by decide) inX12 (by decide) wf_X12_78 (fun _ _ _ => rfl) (by decide +kernel) rfl) (
    okc (ok_iload X (by decide +kernel) rfl) (
    okc (ok_iald X (by decide +kernel) rfl) (
    okc (ok_i2l X (by decide +kernel) rfl) (
    okc (ok_lcmp X (by decide +kernel) rfl) (
    okc (ok_ifne (off := 7) X (by decide +kernel) (by decide) rfl) (
    okc (ok_iconst (n := 1) X (by decide +kernel) rfl rfl) (
    okc (ok_goto (off := 4) X (by decide +kernel) (by decide)) (
    okc (ok_iconst (n := 0) X (by decide +kernel) rfl rfl) (
    okc (ok_istore X (by decide +kernel) rfl) (
    okc (ok_iinc (n := 1) X (by decide +kernel) rfl rfl) (
    okc (ok_goto (off := -59) X (by decide +kernel) (by decide)) (
    okc (ok_iload X (by decide +kernel) rfl) (
    okc (ok_ifeq (off := 5) X (by decide +kernel) (by decide) rfl) (
    okc (ok_iload_n (j := 3) X (by decide +kernel) rfl rfl) (
    okc (ok_iret hret (by decide +kernel)) (
    okc (ok_iinc (n := 1) X (by decide +kernel) rfl rfl) (
    okc (ok_goto (off := -90) X (by decide +kernel) (by decide)) (
    okc (ok_bipush (n := -2) X (by decide +kernel) rfl rfl) (
    okc (ok_iret hret (by decide +kernel)) (
    okn))))))))))))))))))))))))))))))))))))))))))))))))))))))))))))))))))))))))))))))))))))))))
noncomputable def es_X12_seeded  : List (Nat × En) := [(240, en_X12_isShelf), (149, en_X12_in), (216, en_X12_thinkOn)]
noncomputable def ka_X12_seeded_80  (k62 : Int32 → Int32 → Int32 → SS → Option (Int32 × SS)) (n : Nat) : Kn SS (Int32 × SS) := fun pc ls st s => bif Nat.beq pc 62 then (match ls, st with
    | [some y0, some (.int x1), some (.int x2), some (.int x3), _, _], [] => (gd (veq y0 (.ref 74)) (k62 x1 x2 x3 s))
    | _, _ => none) else (bif Nat.beq pc 80 then (match ls, st with
    | [some y0, some (.int x1), some (.int x2), some (.int x3), some (.int x4), some (.int x5)], [] => (gd (veq y0 (.ref 74)) (F_X12_seeded_80 k62 n x1 x2 x3 x4 x5 s))
    | _, _ => none) else (none))
set_option maxRecDepth 100000 in
set_option maxHeartbeats 4000000 in
theorem eq_X12_seeded_80  (k62 : Int32 → Int32 → Int32 → SS → Option (Int32 × SS))  (n : Nat) (x1 : Int32) (x2 : Int32) (x3 : Int32) (x4 : Int32) (x5 : Int32) (s : SS) : ex (tb_X12_seeded (calE (es_X12_seeded))) rI [62, 80] (ka_X12_seeded_80  k62 n) 90 80 [some (.ref 74), some (.int x1), some (.int x2), some (.int x3), some (.int x4), some (.int x5)] [] s = F_X12_seeded_80  k62 (n + 1) x1 x2 x3 x4 x5 s := by
  rfl
noncomputable def ka_X12_seeded_62   (n : Nat) : Kn SS (Int32 × SS) := fun pc ls st s => bif Nat.beq pc 80 then (match ls, st with
    | [some y0, some (.int x1), some (.int x2), some (.int x3), some (.int x4), some (.int x5)], [] => (gd (veq y0 (.ref 74)) (F_X12_seeded_80 (F_X12_seeded_62 n) fuel0 x1 x2 x3 x4 x5 s))
    | _, _ => none) else (none)
set_option maxRecDepth 100000 in
set_option maxHeartbeats 4000000 in
theorem eq_X12_seeded_62    (n : Nat) (x1 : Int32) (x2 : Int32) (x3 : Int32) (s : SS) : ex (tb_X12_seeded (calE (es_X12_seeded))) rI [62, 80] (ka_X12_seeded_62   n) 90 62 [some (.ref 74), some (.int x1), some (.int x2), some (.int x3), none, none] [] s = F_X12_seeded_62   (n + 1) x1 x2 x3 s := by
  rfl
set_option maxRecDepth 100000 in
set_option maxHeartbeats 4000000 in
theorem gd_X12_seeded_80 {ad0 : Nat → Nat} {G : Gm} {A : Nat → Prop} {p : Program} {l : Launch} {e : Env} {R : Room} {s0 : State} {m : MethodId} {args : Array Value} {below : List Frame} {meth : Method} {c : Code} {Q : State → Prop} {r : (Int32 × SS)}  {k62 : Int32 → Int32 → Int32 → SS → Option (Int32 × SS)} (hT : ∀ q ∈ tb_X12_seeded (calE (es_X12_seeded)), OKi G A 6 113 6344 ad0 p l e R s0 m args below meth c Q opsS rI r q.1 q.2) (hk62 : ∀ (x1 : Int32) (x2 : Int32) (x3 : Int32) (s : SS), k62 x1 x2 x3 s = some r → Gd G A 6 113 6344 ad0 p l e R s0 m args below meth c Q opsS 62 [some (.ref 74), some (.int x1), some (.int x2), some (.int x3), none, none] [] s)  : ∀ (n : Nat) (x1 : Int32) (x2 : Int32) (x3 : Int32) (x4 : Int32) (x5 : Int32) (s : SS), F_X12_seeded_80  k62 n x1 x2 x3 x4 x5 s = some r → Gd G A 6 113 6344 ad0 p l e R s0 m args below meth c Q opsS 80 [some (.ref 74), some (.int x1), some (.int x2), some (.int x3), some (.int x4), some (.int x5)] [] s := by
  intro n
  induction n with
  | zero =>
    intro x1 x2 x3 x4 x5 s hh
    exact absurd (show (none : Option (Int32 × SS)) = some r from hh) (by simp)
  | succ n ih =>
    intro x1 x2 x3 x4 x5 s hh
    rw [← eq_X12_seeded_80  k62  n x1 x2 x3 x4 x5 s] at hh
    refine ex_good hT (fun pc' ls' st' x' hh => ?_) 90 80 _ [] s hh
    unfold ka_X12_seeded_80 at hh
    cases hb : Nat.beq pc' 62 with
    | true =>
      rw [hb] at hh
      have e9 := beq1 hb
      subst e9
      simp only [cond_true] at hh
      split at hh
      · obtain ⟨g0, hh1⟩ := gd_some hh
        have e0 := veq_of g0
        subst e0
        exact Gd.wk (hk62 _ _ _ _ hh1) (Lle.eq (Lle.eq (Lle.eq (Lle.eq (Lle.no (Lle.no Lle.nil))))))
      · cases hh
    | false =>
      rw [hb] at hh
      simp only [cond_false] at hh
      cases hb : Nat.beq pc' 80 with
      | true =>
        rw [hb] at hh
        have e9 := beq1 hb
        subst e9
        simp only [cond_true] at hh
        split at hh
        · obtain ⟨g0, hh1⟩ := gd_some hh
          have e0 := veq_of g0
          subst e0
          exact Gd.wk (ih _ _ _ _ _ _ hh1) (Lle.eq (Lle.eq (Lle.eq (Lle.eq (Lle.eq (Lle.eq Lle.nil))))))
        · cases hh
      | false =>
        rw [hb] at hh
        simp only [cond_false] at hh
        cases hh

set_option maxRecDepth 100000 in
set_option maxHeartbeats 4000000 in
theorem gd_X12_seeded_62 {ad0 : Nat → Nat} {G : Gm} {A : Nat → Prop} {p : Program} {l : Launch} {e : Env} {R : Room} {s0 : State} {m : MethodId} {args : Array Value} {below : List Frame} {meth : Method} {c : Code} {Q : State → Prop} {r : (Int32 × SS)}   (hT : ∀ q ∈ tb_X12_seeded (calE (es_X12_seeded)), OKi G A 6 113 6344 ad0 p l e R s0 m args below meth c Q opsS rI r q.1 q.2)   : ∀ (n : Nat) (x1 : Int32) (x2 : Int32) (x3 : Int32) (s : SS), F_X12_seeded_62   n x1 x2 x3 s = some r → Gd G A 6 113 6344 ad0 p l e R s0 m args below meth c Q opsS 62 [some (.ref 74), some (.int x1), some (.int x2), some (.int x3), none, none] [] s := by
  intro n
  induction n with
  | zero =>
    intro x1 x2 x3 s hh
    exact absurd (show (none : Option (Int32 × SS)) = some r from hh) (by simp)
  | succ n ih =>
    intro x1 x2 x3 s hh
    rw [← eq_X12_seeded_62    n x1 x2 x3 s] at hh
    refine ex_good hT (fun pc' ls' st' x' hh => ?_) 90 62 _ [] s hh
    unfold ka_X12_seeded_62 at hh
    cases hb : Nat.beq pc' 80 with
    | true =>
      rw [hb] at hh
      have e9 := beq1 hb
      subst e9
      simp only [cond_true] at hh
      split at hh
      · obtain ⟨g0, hh1⟩ := gd_some hh
        have e0 := veq_of g0
        subst e0
        exact Gd.wk (gd_X12_seeded_80 hT  ih  _ _ _ _ _ _ _ hh1) (Lle.eq (Lle.eq (Lle.eq (Lle.eq (Lle.eq (Lle.eq Lle.nil))))))
      · cases hh
    | false =>
      rw [hb] at hh
      simp only [cond_false] at hh
      cases hh

noncomputable def ka_X12_seeded  : Kn SS (Int32 × SS) := fun pc ls st s => bif Nat.beq pc 62 then (match ls, st with
    | [some y0, some (.int x1), some (.int x2), some (.int x3), _, _], [] => (gd (veq y0 (.ref 74)) (F_X12_seeded_62 fuel0 x1 x2 x3 s))
    | _, _ => none) else (none)
set_option maxRecDepth 100000 in
set_option maxHeartbeats 4000000 in
theorem eq_X12_seeded   (a0 : Int32) (a1 : Int32) (s : SS) : ex (tb_X12_seeded (calE (es_X12_seeded))) rI [62, 80] (ka_X12_seeded ) 90 0 [some (.ref 74), some (.int a0), some (.int a1), none, none, none] [] s = f_X12_seeded a0 a1 s := by
  rfl
set_option maxRecDepth 100000 in
set_option maxHeartbeats 4000000 in
theorem run_X12_seeded {l : Launch} {G : Gm}   (a0 : Int32) (a1 : Int32) (s : SS) (q : (Int32 × SS)) (h : f_X12_seeded a0 a1 s = some q) (D' : Nat) (hD : 7 ≤ D') : RunsM l G (D' + 1) (md 219) (embS s) [.ref 74, .int a0, .int a1] (some (.int q.1)) (embS q.2) := by
  rw [md_X12_seeded]
  refine runs_I (plainFor_of_name (by decide +kernel)) (Nat.le_of_ble_eq_true rfl) rfl ?_
  intro A p e R s0 m args below meth c Q ad0 hR X hret
  have X : Cx G A RX12 cX12_seeded 6 p s0 m args c := X
  have hT := tk_X12_seeded X (calE_ok (es := es_X12_seeded) (enc (en_X12_isShelf_ok _ (by omega)) (enc (en_X12_in_ok _ (by omega)) (enc (en_X12_thinkOn_ok _ (by omega)) (enn))))) (rmD rfl hR) hret
  rw [← eq_X12_seeded   a0 a1 s] at h
  refine ex_good hT (fun pc' ls' st' x' hh => ?_) 90 0 _ [] s h
  unfold ka_X12_seeded at hh
  cases hb : Nat.beq pc' 62 with
  | true =>
    rw [hb] at hh
    have e9 := beq1 hb
    subst e9
    simp only [cond_true] at hh
    split at hh
    · obtain ⟨g0, hh1⟩ := gd_some hh
      have e0 := veq_of g0
      subst e0
      exact Gd.wk (gd_X12_seeded_62 hT  _ _ _ _ _ hh1) (Lle.eq (Lle.eq (Lle.eq (Lle.eq (Lle.no (Lle.no Lle.nil))))))
    · cases hh
  | false =>
    rw [hb] at hh
    simp only [cond_false] at hh
    cases hh

noncomputable def en_X12_seeded  : En := fun _ av s k => match av with
  | [.ref r0, .int a0, .int a1] => (gd (Nat.beq r0 74) (bI (f_X12_seeded a0 a1 s) k))
  | _ => none
set_option maxRecDepth 100000 in
set_option maxHeartbeats 4000000 in
theorem en_X12_seeded_ok {l : Launch} {G : Gm} (D : Nat) (hD : 8 ≤ D) : enOK l G D 219 en_X12_seeded := by
  intro ρ av x k r h
  unfold en_X12_seeded at h
  split at h
  · obtain ⟨g0, h⟩ := gd_some h
    obtain ⟨q, h1, h2⟩ := bind_of h
    have e0 := beq1 g0
    subst e0
    obtain ⟨D', rfl⟩ : ∃ D', D = D' + 1 := ⟨D - 1, by omega⟩
    exact ⟨_, _, h2, run_X12_seeded  _ _ _ _ h1 D' (by omega)⟩
  · cases h

/-! HatRankModel image -/
noncomputable def tb_X12_image (cal : Cal SS) : List (Nat × Ins SS) := [(0, e_aload 0 1), (1, e_iconst (1) 2), (2, e_putZ opsS 12 48 5), (5, e_aload 0 6), (6, e_aload 0 7), (7, e_getI opsS 12 1 10), (10, e_putI opsS 12 49 13), (13, e_aload 0 14), (14, e_aload 0 15), (15, e_getI opsS 12 11 18), (18, e_putI opsS 12 50 21), (21, e_aload 0 22), (22, e_aload 0 23), (23, e_getI opsS 12 4 26), (26, e_putI opsS 12 51 29), (29, e_iconst (0) 30), (30, e_istore 1 31), (31, e_iload 1 32), (32, e_aload 0 33), (33, e_getI opsS 12 11 36), (36, e_cge 69 39), (39, e_aload 0 40), (40, e_getR opsS 12 52 43), (43, e_iload 1 44), (44, e_aload 0 45), (45, e_getR opsS 12 12 48), (48, e_iload 1 49), (49, e_ald opsS 100 50), (50, e_ast opsS 100 (fun v => v) 51), (51, e_aload 0 52), (52, e_getR opsS 12 53 55), (55, e_iload 1 56), (56, e_aload 0 57), (57, e_getR opsS 12 14 60), (60, e_iload 1 61), (61, e_ald opsS 100 62), (62, e_ast opsS 100 (fun v => v) 63), (63, e_iinc 1 (1) 66), (66, e_goto 31), (69, e_iconst (0) 70), (70, e_istore 1 71), (71, e_iload 1 72), (72, e_aload 0 73), (73, e_getI opsS 12 4 76), (76, e_cge 97 79), (79, e_aload 0 80), (80, e_getR opsS 12 54 83), (83, e_iload 1 84), (84, e_aload 0 85), (85, e_getR opsS 12 7 88), (88, e_iload 1 89), (89, e_ald opsS 100 90), (90, e_ast opsS 100 (fun v => v) 91), (91, e_iinc 1 (1) 94), (94, e_goto 71), (97, e_aload 0 98), (98, e_getI opsS 12 1 101), (101, e_iret)]
set_option maxRecDepth 100000 in
set_option maxHeartbeats 4000000 in
theorem tk_X12_image {ad0 : Nat → Nat} {G : Gm} {A : Nat → Prop} {p : Program} {l : Launch} {e : Env} {R : Room} {s0 : State} {m : MethodId} {args : Array Value} {below : List Frame} {meth : Method} {c : Code} {Q : State → Prop} {ρ : Type} {ret : Option Value → SS → Option ρ} {r : ρ} (X : Cx G A RX12 cX12_image 2 p s0 m args c) {D' : Nat} {cal : Cal SS} (hcal : calOK l G opsS D' cal) (hRm : ∀ k, k ≤ 21 → D' + 1 ≤ R.frames ∧ 8 + (k + 11) + 40 * D' ≤ R.locals) (hret : RetK G A cX12_image 113 6344 ad0 p l e R s0 m args below meth c Q opsS ret r .ireturn okI) : ∀ q ∈ tb_X12_image cal, OKi G A 2 113 6344 ad0 p l e R s0 m args below meth c Q opsS ret r q.1 q.2 :=
    okc (ok_aload_n (j := 0) X (by decide +kernel) rfl rfl) (
    okc (ok_iconst (n := 1) X (by decide +kernel) rfl rfl) (
    okc (ok_putZ (ci := 12) (kf := 48) (idx := 361) (C := RX12) (T := TX12) (N := 63) X opsS_ok rfl (by decide) inX12 tyX12_ok nmX12 (by decide) wf_X12_361 rfl (fun _ _ _ => rfl) (by decide +kernel) (by decide +kernel) rfl) (
    okc (ok_aload_n (j := 0) X (by decide +kernel) rfl rfl) (
    okc (ok_aload_n (j := 0) X (by decide +kernel) rfl rfl) (
    okc (ok_getI (ci := 12) (kf := 1) (idx := 272) (C := RX12) (T := TX12) (N := 63) X rfl (by decide) inX12 (by decide) wf_X12_272 (fun _ _ _ => rfl) (by decide +kernel) rfl) (
    okc (ok_putI (ci := 12) (kf := 49) (idx := 364) (C := RX12) (T := TX12) (N := 63) X opsS_ok rfl (by decide) inX12 tyX12_ok nmX12 (by decide) wf_X12_364 rfl (fun _ _ _ => rfl) (by decide +kernel) (by decide +kernel) rfl) (
    okc (ok_aload_n (j := 0) X (by decide +kernel) rfl rfl) (
    okc (ok_aload_n (j := 0) X (by decide +kernel) rfl rfl) (
    okc (ok_getI (ci := 12) (kf := 11) (idx := 138) (C := RX12) (T := TX12) (N := 63) X rfl (by decide) inX12 (by decide) wf_X12_138 (fun _ _ _ => rfl) (by decide +kernel) rfl) (
    okc (ok_putI (ci := 12) (kf := 50) (idx := 367) (C := RX12) (T := TX12) (N := 63) X opsS_ok rfl (by decide) inX12 tyX12_ok nmX12 (by decide) wf_X12_367 rfl (fun _ _ _ => rfl) (by decide +kernel) (by decide +kernel) rfl) (
    okc (ok_aload_n (j := 0) X (by decide +kernel) rfl rfl) (
    okc (ok_aload_n (j := 0) X (by decide +kernel) rfl rfl) (
    okc (ok_getI (ci := 12) (kf := 4) (idx := 131) (C := RX12) (T := TX12) (N := 63) X rfl (by decide) inX12 (by decide) wf_X12_131 (fun _ _ _ => rfl) (by decide +kernel) rfl) (
    okc (ok_putI (ci := 12) (kf := 51) (idx := 370) (C := RX12) (T := TX12) (N := 63) X opsS_ok rfl (by decide) inX12 tyX12_ok nmX12 (by decide) wf_X12_370 rfl (fun _ _ _ => rfl) (by decide +kernel) (by decide +kernel) rfl) (
    okc (ok_iconst (n := 0) X (by decide +kernel) rfl rfl) (
    okc (ok_istore_n (j := 1) X (by decide +kernel) rfl rfl) (
    okc (ok_iload_n (j := 1) X (by decide +kernel) rfl rfl) (
    okc (ok_aload_n (j := 0) X (by decide +kernel) rfl rfl) (
    okc (ok_getI (ci := 12) (kf := 11) (idx := 138) (C := RX12) (T := TX12) (N := 63) X rfl (by decide) inX12 (by decide) wf_X12_138 (fun _ _ _ => rfl) (by decide +kernel) rfl) (
    okc (ok_cge (off := 33) X (by decide +kernel) (by decide) rfl) (
    okc (ok_aload_n (j := 0) X (by decide +kernel) rfl rfl) (
    okc (ok_getR (ci := 12) (kf := 52) (idx := 99) (C := RX12) (T := TX12) (N := 63) X rfl (by decide) inX12 (by decide) wf_X12_99 (fun _ _ _ => rfl) (by decide +kernel) rfl) (
    okc (ok_iload_n (j := 1) X (by decide +kernel) rfl rfl) (
    okc (ok_aload_n (j := 0) X (by decide +kernel) rfl rfl) (
    okc (ok_getR (ci := 12) (kf := 12) (idx := 28) (C := RX12) (T := TX12) (N := 63) X rfl (by decide) inX12 (by decide) wf_X12_28 (fun _ _ _ => rfl) (by decide +kernel) rfl) (
    okc (ok_iload_n (j := 1) X (by decide +kernel) rfl rfl) (
    okc (ok_iald X (by decide +kernel) rfl) (
    okc (ok_iast X opsS_ok (by decide +kernel) rfl) (
    okc (ok_aload_n (j := 0) X (by decide +kernel) rfl rfl) (
    okc (ok_getR (ci := 12) (kf := 53) (idx := 102) (C := RX12) (T := TX12) (N := 63) X rfl (by decide) inX12 (by decide) wf_X12_102 (fun _ _ _ => rfl) (by decide +kernel) rfl) (
    okc (ok_iload_n (j := 1) X (by decide +kernel) rfl rfl) (
    okc (ok_aload_n (j := 0) X (by decide +kernel) rfl rfl) (
    okc (ok_getR (ci := 12) (kf := 14) (idx := 34) (C := RX12) (T := TX12) (N := 63) X rfl (by decide) inX12 (by decide) wf_X12_34 (fun _ _ _ => rfl) (by decide +kernel) rfl) (
    okc (ok_iload_n (j := 1) X (by decide +kernel) rfl rfl) (
    okc (ok_iald X (by decide +kernel) rfl) (
    okc (ok_iast X opsS_ok (by decide +kernel) rfl) (
    okc (ok_iinc (n := 1) X (by decide +kernel) rfl rfl) (
    okc (ok_goto (off := -35) X (by decide +kernel) (by decide)) (
    okc (ok_iconst (n := 0) X (by decide +kernel) rfl rfl) (
    okc (ok_istore_n (j := 1) X (by decide +kernel) rfl rfl) (
    okc (ok_iload_n (j := 1) X (by decide +kernel) rfl rfl) (
    okc (ok_aload_n (j := 0) X (by decide +kernel) rfl rfl) (
    okc (ok_getI (ci := 12) (kf := 4) (idx := 131) (C := RX12) (T := TX12) (N := 63) X rfl (by decide) inX12 (by decide) wf_X12_131 (fun _ _ _ => rfl) (by decide +kernel) rfl) (
    okc (ok_cge (off := 21) X (by decide +kernel) (by decide) rfl) (
    okc (ok_aload_n (j := 0) X (by decide +kernel) rfl rfl) (
    okc (ok_getR (ci := 12) (kf := 54) (idx := 105) (C := RX12) (T := TX12) (N := 63) X rfl (by decide) inX12 (by decide) wf_X12_105 (fun _ _ _ => rfl) (by decide +kernel) rfl) (
    okc (ok_iload_n (j := 1) X (by decide +kernel) rfl rfl) (
    okc (ok_aload_n (j := 0) X (by decide +kernel) rfl rfl) (
    okc (ok_getR (ci := 12) (kf := 7) (idx := 19) (C := RX12) (T := TX12) (N := 63) X rfl (by decide) inX12 (by decide) wf_X12_19 (fun _ _ _ => rfl) (by decide +kernel) rfl) (
    okc (ok_iload_n (j := 1) X (by decide +kernel) rfl rfl) (
    okc (ok_iald X (by decide +kernel) rfl) (
    okc (ok_iast X opsS_ok (by decide +kernel) rfl) (
    okc (ok_iinc (n := 1) X (by decide +kernel) rfl rfl) (
    okc (ok_goto (off := -23) X (by decide +kernel) (by decide)) (
    okc (ok_aload_n (j := 0) X (by decide +kernel) rfl rfl) (
    okc (ok_getI (ci := 12) (kf := 1) (idx := 272) (C := RX12) (T := TX12) (N := 63) X rfl (by decide) inX12 (by decide) wf_X12_272 (fun _ _ _ => rfl) (by decide +kernel) rfl) (
    okc (ok_iret hret (by decide +kernel)) (
    okn))))))))))))))))))))))))))))))))))))))))))))))))))))))))))
noncomputable def es_X12_image  : List (Nat × En) := []
noncomputable def ka_X12_image_71   (n : Nat) : Kn SS (Int32 × SS) := fun pc ls st s => bif Nat.beq pc 71 then (match ls, st with
    | [some y0, some (.int x1)], [] => (gd (veq y0 (.ref 74)) (F_X12_image_71 n x1 s))
    | _, _ => none) else (none)
set_option maxRecDepth 100000 in
set_option maxHeartbeats 4000000 in
theorem eq_X12_image_71    (n : Nat) (x1 : Int32) (s : SS) : ex (tb_X12_image (calE (es_X12_image))) rI [31, 71] (ka_X12_image_71   n) 60 71 [some (.ref 74), some (.int x1)] [] s = F_X12_image_71   (n + 1) x1 s := by
  rfl
noncomputable def ka_X12_image_31   (n : Nat) : Kn SS (Int32 × SS) := fun pc ls st s => bif Nat.beq pc 31 then (match ls, st with
    | [some y0, some (.int x1)], [] => (gd (veq y0 (.ref 74)) (F_X12_image_31 n x1 s))
    | _, _ => none) else (bif Nat.beq pc 71 then (match ls, st with
    | [some y0, some (.int x1)], [] => (gd (veq y0 (.ref 74)) (F_X12_image_71 fuel0 x1 s))
    | _, _ => none) else (none))
set_option maxRecDepth 100000 in
set_option maxHeartbeats 4000000 in
theorem eq_X12_image_31    (n : Nat) (x1 : Int32) (s : SS) : ex (tb_X12_image (calE (es_X12_image))) rI [31, 71] (ka_X12_image_31   n) 60 31 [some (.ref 74), some (.int x1)] [] s = F_X12_image_31   (n + 1) x1 s := by
  rfl
set_option maxRecDepth 100000 in
set_option maxHeartbeats 4000000 in
theorem gd_X12_image_71 {ad0 : Nat → Nat} {G : Gm} {A : Nat → Prop} {p : Program} {l : Launch} {e : Env} {R : Room} {s0 : State} {m : MethodId} {args : Array Value} {below : List Frame} {meth : Method} {c : Code} {Q : State → Prop} {r : (Int32 × SS)}   (hT : ∀ q ∈ tb_X12_image (calE (es_X12_image)), OKi G A 2 113 6344 ad0 p l e R s0 m args below meth c Q opsS rI r q.1 q.2)   : ∀ (n : Nat) (x1 : Int32) (s : SS), F_X12_image_71   n x1 s = some r → Gd G A 2 113 6344 ad0 p l e R s0 m args below meth c Q opsS 71 [some (.ref 74), some (.int x1)] [] s := by
  intro n
  induction n with
  | zero =>
    intro x1 s hh
    exact absurd (show (none : Option (Int32 × SS)) = some r from hh) (by simp)
  | succ n ih =>
    intro x1 s hh
    rw [← eq_X12_image_71    n x1 s] at hh
    refine ex_good hT (fun pc' ls' st' x' hh => ?_) 60 71 _ [] s hh
    unfold ka_X12_image_71 at hh
    cases hb : Nat.beq pc' 71 with
    | true =>
      rw [hb] at hh
      have e9 := beq1 hb
      subst e9
      simp only [cond_true] at hh
      split at hh
      · obtain ⟨g0, hh1⟩ := gd_some hh
        have e0 := veq_of g0
        subst e0
        exact Gd.wk (ih _ _ hh1) (Lle.eq (Lle.eq Lle.nil))
      · cases hh
    | false =>
      rw [hb] at hh
      simp only [cond_false] at hh
      cases hh

set_option maxRecDepth 100000 in
set_option maxHeartbeats 4000000 in
theorem gd_X12_image_31 {ad0 : Nat → Nat} {G : Gm} {A : Nat → Prop} {p : Program} {l : Launch} {e : Env} {R : Room} {s0 : State} {m : MethodId} {args : Array Value} {below : List Frame} {meth : Method} {c : Code} {Q : State → Prop} {r : (Int32 × SS)}   (hT : ∀ q ∈ tb_X12_image (calE (es_X12_image)), OKi G A 2 113 6344 ad0 p l e R s0 m args below meth c Q opsS rI r q.1 q.2)   : ∀ (n : Nat) (x1 : Int32) (s : SS), F_X12_image_31   n x1 s = some r → Gd G A 2 113 6344 ad0 p l e R s0 m args below meth c Q opsS 31 [some (.ref 74), some (.int x1)] [] s := by
  intro n
  induction n with
  | zero =>
    intro x1 s hh
    exact absurd (show (none : Option (Int32 × SS)) = some r from hh) (by simp)
  | succ n ih =>
    intro x1 s hh
    rw [← eq_X12_image_31    n x1 s] at hh
    refine ex_good hT (fun pc' ls' st' x' hh => ?_) 60 31 _ [] s hh
    unfold ka_X12_image_31 at hh
    cases hb : Nat.beq pc' 31 with
    | true =>
      rw [hb] at hh
      have e9 := beq1 hb
      subst e9
      simp only [cond_true] at hh
      split at hh
      · obtain ⟨g0, hh1⟩ := gd_some hh
        have e0 := veq_of g0
        subst e0
        exact Gd.wk (ih _ _ hh1) (Lle.eq (Lle.eq Lle.nil))
      · cases hh
    | false =>
      rw [hb] at hh
      simp only [cond_false] at hh
      cases hb : Nat.beq pc' 71 with
      | true =>
        rw [hb] at hh
        have e9 := beq1 hb
        subst e9
        simp only [cond_true] at hh
        split at hh
        · obtain ⟨g0, hh1⟩ := gd_some hh
          have e0 := veq_of g0
          subst e0
          exact Gd.wk (gd_X12_image_71 hT   _ _ _ hh1) (Lle.eq (Lle.eq Lle.nil))
        · cases hh
      | false =>
        rw [hb] at hh
        simp only [cond_false] at hh
        cases hh

noncomputable def ka_X12_image  : Kn SS (Int32 × SS) := fun pc ls st s => bif Nat.beq pc 31 then (match ls, st with
    | [some y0, some (.int x1)], [] => (gd (veq y0 (.ref 74)) (F_X12_image_31 fuel0 x1 s))
    | _, _ => none) else (none)
set_option maxRecDepth 100000 in
set_option maxHeartbeats 4000000 in
theorem eq_X12_image    (s : SS) : ex (tb_X12_image (calE (es_X12_image))) rI [31, 71] (ka_X12_image ) 60 0 [some (.ref 74), none] [] s = f_X12_image  s := by
  rfl
set_option maxRecDepth 100000 in
set_option maxHeartbeats 4000000 in
theorem run_X12_image {l : Launch} {G : Gm}    (s : SS) (q : (Int32 × SS)) (h : f_X12_image  s = some q) (D' : Nat) (hD : 0 ≤ D') : RunsM l G (D' + 1) (md 220) (embS s) [.ref 74] (some (.int q.1)) (embS q.2) := by
  rw [md_X12_image]
  refine runs_I (plainFor_of_name (by decide +kernel)) (Nat.le_of_ble_eq_true rfl) rfl ?_
  intro A p e R s0 m args below meth c Q ad0 hR X hret
  have X : Cx G A RX12 cX12_image 2 p s0 m args c := X
  have hT := tk_X12_image X (calE_ok (es := es_X12_image) (enn)) (rmD rfl hR) hret
  rw [← eq_X12_image    s] at h
  refine ex_good hT (fun pc' ls' st' x' hh => ?_) 60 0 _ [] s h
  unfold ka_X12_image at hh
  cases hb : Nat.beq pc' 31 with
  | true =>
    rw [hb] at hh
    have e9 := beq1 hb
    subst e9
    simp only [cond_true] at hh
    split at hh
    · obtain ⟨g0, hh1⟩ := gd_some hh
      have e0 := veq_of g0
      subst e0
      exact Gd.wk (gd_X12_image_31 hT  _ _ _ hh1) (Lle.eq (Lle.eq Lle.nil))
    · cases hh
  | false =>
    rw [hb] at hh
    simp only [cond_false] at hh
    cases hh

noncomputable def en_X12_image  : En := fun _ av s k => match av with
  | [.ref r0] => (gd (Nat.beq r0 74) (bI (f_X12_image  s) k))
  | _ => none
set_option maxRecDepth 100000 in
set_option maxHeartbeats 4000000 in
theorem en_X12_image_ok {l : Launch} {G : Gm} (D : Nat) (hD : 1 ≤ D) : enOK l G D 220 en_X12_image := by
  intro ρ av x k r h
  unfold en_X12_image at h
  split at h
  · obtain ⟨g0, h⟩ := gd_some h
    obtain ⟨q, h1, h2⟩ := bind_of h
    have e0 := beq1 g0
    subst e0
    obtain ⟨D', rfl⟩ : ∃ D', D = D' + 1 := ⟨D - 1, by omega⟩
    exact ⟨_, _, h2, run_X12_image   _ _ h1 D' (by omega)⟩
  · cases h

/-! HatRankModel back -/
noncomputable def tb_X12_back (cal : Cal SS) : List (Nat × Ins SS) := [(0, e_aload 0 1), (1, e_getI opsS 12 48 4), (4, e_ifne 10 7), (7, e_iconst (-5) 9), (9, e_iret), (10, e_aload 0 11), (11, e_aload 0 12), (12, e_getI opsS 12 49 15), (15, e_putI opsS 12 1 18), (18, e_iconst (0) 19), (19, e_istore 1 20), (20, e_iload 1 21), (21, e_aload 0 22), (22, e_getI opsS 12 50 25), (25, e_cge 58 28), (28, e_aload 0 29), (29, e_getR opsS 12 12 32), (32, e_iload 1 33), (33, e_aload 0 34), (34, e_getR opsS 12 52 37), (37, e_iload 1 38), (38, e_ald opsS 100 39), (39, e_ast opsS 100 (fun v => v) 40), (40, e_aload 0 41), (41, e_getR opsS 12 14 44), (44, e_iload 1 45), (45, e_aload 0 46), (46, e_getR opsS 12 53 49), (49, e_iload 1 50), (50, e_ald opsS 100 51), (51, e_ast opsS 100 (fun v => v) 52), (52, e_iinc 1 (1) 55), (55, e_goto 20), (58, e_iconst (0) 59), (59, e_istore 1 60), (60, e_iload 1 61), (61, e_aload 0 62), (62, e_getI opsS 12 51 65), (65, e_cge 86 68), (68, e_aload 0 69), (69, e_getR opsS 12 7 72), (72, e_iload 1 73), (73, e_aload 0 74), (74, e_getR opsS 12 54 77), (77, e_iload 1 78), (78, e_ald opsS 100 79), (79, e_ast opsS 100 (fun v => v) 80), (80, e_iinc 1 (1) 83), (83, e_goto 60), (86, e_aload 0 87), (87, e_getI opsS 12 1 90), (90, e_iret)]
set_option maxRecDepth 100000 in
set_option maxHeartbeats 4000000 in
theorem tk_X12_back {ad0 : Nat → Nat} {G : Gm} {A : Nat → Prop} {p : Program} {l : Launch} {e : Env} {R : Room} {s0 : State} {m : MethodId} {args : Array Value} {below : List Frame} {meth : Method} {c : Code} {Q : State → Prop} {ρ : Type} {ret : Option Value → SS → Option ρ} {r : ρ} (X : Cx G A RX12 cX12_back 2 p s0 m args c) {D' : Nat} {cal : Cal SS} (hcal : calOK l G opsS D' cal) (hRm : ∀ k, k ≤ 21 → D' + 1 ≤ R.frames ∧ 8 + (k + 11) + 40 * D' ≤ R.locals) (hret : RetK G A cX12_back 113 6344 ad0 p l e R s0 m args below meth c Q opsS ret r .ireturn okI) : ∀ q ∈ tb_X12_back cal, OKi G A 2 113 6344 ad0 p l e R s0 m args below meth c Q opsS ret r q.1 q.2 :=
    okc (ok_aload_n (j := 0) X (by decide +kernel) rfl rfl) (
    okc (ok_getI (ci := 12) (kf := 48) (idx := 361) (C := RX12) (T := TX12) (N := 63) X rfl (by decide) inX12 (by decide) wf_X12_361 (fun _ _ _ => rfl) (by decide +kernel) rfl) (
    okc (ok_ifne (off := 6) X (by decide +kernel) (by decide) rfl) (
    okc (ok_bipush (n := -5) X (by decide +kernel) rfl rfl) (
    okc (ok_iret hret (by decide +kernel)) (
    okc (ok_aload_n (j := 0) X (by decide +kernel) rfl rfl) (
    okc (ok_aload_n (j := 0) X (by decide +kernel) rfl rfl) (
    okc (ok_getI (ci := 12) (kf := 49) (idx := 364) (C := RX12) (T := TX12) (N := 63) X rfl (by decide) inX12 (by decide) wf_X12_364 (fun _ _ _ => rfl) (by decide +kernel) rfl) (
    okc (ok_putI (ci := 12) (kf := 1) (idx := 272) (C := RX12) (T := TX12) (N := 63) X opsS_ok rfl (by decide) inX12 tyX12_ok nmX12 (by decide) wf_X12_272 rfl (fun _ _ _ => rfl) (by decide +kernel) (by decide +kernel) rfl) (
    okc (ok_iconst (n := 0) X (by decide +kernel) rfl rfl) (
    okc (ok_istore_n (j := 1) X (by decide +kernel) rfl rfl) (
    okc (ok_iload_n (j := 1) X (by decide +kernel) rfl rfl) (
    okc (ok_aload_n (j := 0) X (by decide +kernel) rfl rfl) (
    okc (ok_getI (ci := 12) (kf := 50) (idx := 367) (C := RX12) (T := TX12) (N := 63) X rfl (by decide) inX12 (by decide) wf_X12_367 (fun _ _ _ => rfl) (by decide +kernel) rfl) (
    okc (ok_cge (off := 33) X (by decide +kernel) (by decide) rfl) (
    okc (ok_aload_n (j := 0) X (by decide +kernel) rfl rfl) (
    okc (ok_getR (ci := 12) (kf := 12) (idx := 28) (C := RX12) (T := TX12) (N := 63) X rfl (by decide) inX12 (by decide) wf_X12_28 (fun _ _ _ => rfl) (by decide +kernel) rfl) (
    okc (ok_iload_n (j := 1) X (by decide +kernel) rfl rfl) (
    okc (ok_aload_n (j := 0) X (by decide +kernel) rfl rfl) (
    okc (ok_getR (ci := 12) (kf := 52) (idx := 99) (C := RX12) (T := TX12) (N := 63) X rfl (by decide) inX12 (by decide) wf_X12_99 (fun _ _ _ => rfl) (by decide +kernel) rfl) (
    okc (ok_iload_n (j := 1) X (by decide +kernel) rfl rfl) (
    okc (ok_iald X (by decide +kernel) rfl) (
    okc (ok_iast X opsS_ok (by decide +kernel) rfl) (
    okc (ok_aload_n (j := 0) X (by decide +kernel) rfl rfl) (
    okc (ok_getR (ci := 12) (kf := 14) (idx := 34) (C := RX12) (T := TX12) (N := 63) X rfl (by decide) inX12 (by decide) wf_X12_34 (fun _ _ _ => rfl) (by decide +kernel) rfl) (
    okc (ok_iload_n (j := 1) X (by decide +kernel) rfl rfl) (
    okc (ok_aload_n (j := 0) X (by decide +kernel) rfl rfl) (
    okc (ok_getR (ci := 12) (kf := 53) (idx := 102) (C := RX12) (T := TX12) (N := 63) X rfl (by decide) inX12 (by decide) wf_X12_102 (fun _ _ _ => rfl) (by decide +kernel) rfl) (
    okc (ok_iload_n (j := 1) X (by decide +kernel) rfl rfl) (
    okc (ok_iald X (by decide +kernel) rfl) (
    okc (ok_iast X opsS_ok (by decide +kernel) rfl) (
    okc (ok_iinc (n := 1) X (by decide +kernel) rfl rfl) (
    okc (ok_goto (off := -35) X (by decide +kernel) (by decide)) (
    okc (ok_iconst (n := 0) X (by decide +kernel) rfl rfl) (
    okc (ok_istore_n (j := 1) X (by decide +kernel) rfl rfl) (
    okc (ok_iload_n (j := 1) X (by decide +kernel) rfl rfl) (
    okc (ok_aload_n (j := 0) X (by decide +kernel) rfl rfl) (
    okc (ok_getI (ci := 12) (kf := 51) (idx := 370) (C := RX12) (T := TX12) (N := 63) X rfl (by decide) inX12 (by decide) wf_X12_370 (fun _ _ _ => rfl) (by decide +kernel) rfl) (
    okc (ok_cge (off := 21) X (by decide +kernel) (by decide) rfl) (
    okc (ok_aload_n (j := 0) X (by decide +kernel) rfl rfl) (
    okc (ok_getR (ci := 12) (kf := 7) (idx := 19) (C := RX12) (T := TX12) (N := 63) X rfl (by decide) inX12 (by decide) wf_X12_19 (fun _ _ _ => rfl) (by decide +kernel) rfl) (
    okc (ok_iload_n (j := 1) X (by decide +kernel) rfl rfl) (
    okc (ok_aload_n (j := 0) X (by decide +kernel) rfl rfl) (
    okc (ok_getR (ci := 12) (kf := 54) (idx := 105) (C := RX12) (T := TX12) (N := 63) X rfl (by decide) inX12 (by decide) wf_X12_105 (fun _ _ _ => rfl) (by decide +kernel) rfl) (
    okc (ok_iload_n (j := 1) X (by decide +kernel) rfl rfl) (
    okc (ok_iald X (by decide +kernel) rfl) (
    okc (ok_iast X opsS_ok (by decide +kernel) rfl) (
    okc (ok_iinc (n := 1) X (by decide +kernel) rfl rfl) (
    okc (ok_goto (off := -23) X (by decide +kernel) (by decide)) (
    okc (ok_aload_n (j := 0) X (by decide +kernel) rfl rfl) (
    okc (ok_getI (ci := 12) (kf := 1) (idx := 272) (C := RX12) (T := TX12) (N := 63) X rfl (by decide) inX12 (by decide) wf_X12_272 (fun _ _ _ => rfl) (by decide +kernel) rfl) (
    okc (ok_iret hret (by decide +kernel)) (
    okn))))))))))))))))))))))))))))))))))))))))))))))))))))
noncomputable def es_X12_back  : List (Nat × En) := []
noncomputable def ka_X12_back_60   (n : Nat) : Kn SS (Int32 × SS) := fun pc ls st s => bif Nat.beq pc 60 then (match ls, st with
    | [some y0, some (.int x1)], [] => (gd (veq y0 (.ref 74)) (F_X12_back_60 n x1 s))
    | _, _ => none) else (none)
set_option maxRecDepth 100000 in
set_option maxHeartbeats 4000000 in
theorem eq_X12_back_60    (n : Nat) (x1 : Int32) (s : SS) : ex (tb_X12_back (calE (es_X12_back))) rI [20, 60] (ka_X12_back_60   n) 54 60 [some (.ref 74), some (.int x1)] [] s = F_X12_back_60   (n + 1) x1 s := by
  rfl
noncomputable def ka_X12_back_20   (n : Nat) : Kn SS (Int32 × SS) := fun pc ls st s => bif Nat.beq pc 20 then (match ls, st with
    | [some y0, some (.int x1)], [] => (gd (veq y0 (.ref 74)) (F_X12_back_20 n x1 s))
    | _, _ => none) else (bif Nat.beq pc 60 then (match ls, st with
    | [some y0, some (.int x1)], [] => (gd (veq y0 (.ref 74)) (F_X12_back_60 fuel0 x1 s))
    | _, _ => none) else (none))
set_option maxRecDepth 100000 in
set_option maxHeartbeats 4000000 in
theorem eq_X12_back_20    (n : Nat) (x1 : Int32) (s : SS) : ex (tb_X12_back (calE (es_X12_back))) rI [20, 60] (ka_X12_back_20   n) 54 20 [some (.ref 74), some (.int x1)] [] s = F_X12_back_20   (n + 1) x1 s := by
  rfl
set_option maxRecDepth 100000 in
set_option maxHeartbeats 4000000 in
theorem gd_X12_back_60 {ad0 : Nat → Nat} {G : Gm} {A : Nat → Prop} {p : Program} {l : Launch} {e : Env} {R : Room} {s0 : State} {m : MethodId} {args : Array Value} {below : List Frame} {meth : Method} {c : Code} {Q : State → Prop} {r : (Int32 × SS)}   (hT : ∀ q ∈ tb_X12_back (calE (es_X12_back)), OKi G A 2 113 6344 ad0 p l e R s0 m args below meth c Q opsS rI r q.1 q.2)   : ∀ (n : Nat) (x1 : Int32) (s : SS), F_X12_back_60   n x1 s = some r → Gd G A 2 113 6344 ad0 p l e R s0 m args below meth c Q opsS 60 [some (.ref 74), some (.int x1)] [] s := by
  intro n
  induction n with
  | zero =>
    intro x1 s hh
    exact absurd (show (none : Option (Int32 × SS)) = some r from hh) (by simp)
  | succ n ih =>
    intro x1 s hh
    rw [← eq_X12_back_60    n x1 s] at hh
    refine ex_good hT (fun pc' ls' st' x' hh => ?_) 54 60 _ [] s hh
    unfold ka_X12_back_60 at hh
    cases hb : Nat.beq pc' 60 with
    | true =>
      rw [hb] at hh
      have e9 := beq1 hb
      subst e9
      simp only [cond_true] at hh
      split at hh
      · obtain ⟨g0, hh1⟩ := gd_some hh
        have e0 := veq_of g0
        subst e0
        exact Gd.wk (ih _ _ hh1) (Lle.eq (Lle.eq Lle.nil))
      · cases hh
    | false =>
      rw [hb] at hh
      simp only [cond_false] at hh
      cases hh

set_option maxRecDepth 100000 in
set_option maxHeartbeats 4000000 in
theorem gd_X12_back_20 {ad0 : Nat → Nat} {G : Gm} {A : Nat → Prop} {p : Program} {l : Launch} {e : Env} {R : Room} {s0 : State} {m : MethodId} {args : Array Value} {below : List Frame} {meth : Method} {c : Code} {Q : State → Prop} {r : (Int32 × SS)}   (hT : ∀ q ∈ tb_X12_back (calE (es_X12_back)), OKi G A 2 113 6344 ad0 p l e R s0 m args below meth c Q opsS rI r q.1 q.2)   : ∀ (n : Nat) (x1 : Int32) (s : SS), F_X12_back_20   n x1 s = some r → Gd G A 2 113 6344 ad0 p l e R s0 m args below meth c Q opsS 20 [some (.ref 74), some (.int x1)] [] s := by
  intro n
  induction n with
  | zero =>
    intro x1 s hh
    exact absurd (show (none : Option (Int32 × SS)) = some r from hh) (by simp)
  | succ n ih =>
    intro x1 s hh
    rw [← eq_X12_back_20    n x1 s] at hh
    refine ex_good hT (fun pc' ls' st' x' hh => ?_) 54 20 _ [] s hh
    unfold ka_X12_back_20 at hh
    cases hb : Nat.beq pc' 20 with
    | true =>
      rw [hb] at hh
      have e9 := beq1 hb
      subst e9
      simp only [cond_true] at hh
      split at hh
      · obtain ⟨g0, hh1⟩ := gd_some hh
        have e0 := veq_of g0
        subst e0
        exact Gd.wk (ih _ _ hh1) (Lle.eq (Lle.eq Lle.nil))
      · cases hh
    | false =>
      rw [hb] at hh
      simp only [cond_false] at hh
      cases hb : Nat.beq pc' 60 with
      | true =>
        rw [hb] at hh
        have e9 := beq1 hb
        subst e9
        simp only [cond_true] at hh
        split at hh
        · obtain ⟨g0, hh1⟩ := gd_some hh
          have e0 := veq_of g0
          subst e0
          exact Gd.wk (gd_X12_back_60 hT   _ _ _ hh1) (Lle.eq (Lle.eq Lle.nil))
        · cases hh
      | false =>
        rw [hb] at hh
        simp only [cond_false] at hh
        cases hh

noncomputable def ka_X12_back  : Kn SS (Int32 × SS) := fun pc ls st s => bif Nat.beq pc 20 then (match ls, st with
    | [some y0, some (.int x1)], [] => (gd (veq y0 (.ref 74)) (F_X12_back_20 fuel0 x1 s))
    | _, _ => none) else (none)
set_option maxRecDepth 100000 in
set_option maxHeartbeats 4000000 in
theorem eq_X12_back    (s : SS) : ex (tb_X12_back (calE (es_X12_back))) rI [20, 60] (ka_X12_back ) 54 0 [some (.ref 74), none] [] s = f_X12_back  s := by
  rfl
set_option maxRecDepth 100000 in
set_option maxHeartbeats 4000000 in
theorem run_X12_back {l : Launch} {G : Gm}    (s : SS) (q : (Int32 × SS)) (h : f_X12_back  s = some q) (D' : Nat) (hD : 0 ≤ D') : RunsM l G (D' + 1) (md 221) (embS s) [.ref 74] (some (.int q.1)) (embS q.2) := by
  rw [md_X12_back]
  refine runs_I (plainFor_of_name (by decide +kernel)) (Nat.le_of_ble_eq_true rfl) rfl ?_
  intro A p e R s0 m args below meth c Q ad0 hR X hret
  have X : Cx G A RX12 cX12_back 2 p s0 m args c := X
  have hT := tk_X12_back X (calE_ok (es := es_X12_back) (enn)) (rmD rfl hR) hret
  rw [← eq_X12_back    s] at h
  refine ex_good hT (fun pc' ls' st' x' hh => ?_) 54 0 _ [] s h
  unfold ka_X12_back at hh
  cases hb : Nat.beq pc' 20 with
  | true =>
    rw [hb] at hh
    have e9 := beq1 hb
    subst e9
    simp only [cond_true] at hh
    split at hh
    · obtain ⟨g0, hh1⟩ := gd_some hh
      have e0 := veq_of g0
      subst e0
      exact Gd.wk (gd_X12_back_20 hT  _ _ _ hh1) (Lle.eq (Lle.eq Lle.nil))
    · cases hh
  | false =>
    rw [hb] at hh
    simp only [cond_false] at hh
    cases hh

noncomputable def en_X12_back  : En := fun _ av s k => match av with
  | [.ref r0] => (gd (Nat.beq r0 74) (bI (f_X12_back  s) k))
  | _ => none
set_option maxRecDepth 100000 in
set_option maxHeartbeats 4000000 in
theorem en_X12_back_ok {l : Launch} {G : Gm} (D : Nat) (hD : 1 ≤ D) : enOK l G D 221 en_X12_back := by
  intro ρ av x k r h
  unfold en_X12_back at h
  split at h
  · obtain ⟨g0, h⟩ := gd_some h
    obtain ⟨q, h1, h2⟩ := bind_of h
    have e0 := beq1 g0
    subst e0
    obtain ⟨D', rfl⟩ : ∃ D', D = D' + 1 := ⟨D - 1, by omega⟩
    exact ⟨_, _, h2, run_X12_back   _ _ h1 D' (by omega)⟩
  · cases h

/-! HatRankModel isBody -/
noncomputable def tb_X12_isBody (cal : Cal SS) : List (Nat × Ins SS) := [(0, e_iload 1 1), (1, e_iconst (0) 2), (2, e_aload 0 3), (3, e_getI opsS 12 55 6), (6, e_iconst (1) 7), (7, e_bin aSub 8), (8, e_callS cal 149 3 11), (11, e_zret)]
set_option maxRecDepth 100000 in
set_option maxHeartbeats 4000000 in
theorem tk_X12_isBody {ad0 : Nat → Nat} {G : Gm} {A : Nat → Prop} {p : Program} {l : Launch} {e : Env} {R : Room} {s0 : State} {m : MethodId} {args : Array Value} {below : List Frame} {meth : Method} {c : Code} {Q : State → Prop} {ρ : Type} {ret : Option Value → SS → Option ρ} {r : ρ} (X : Cx G A RX12 cX12_isBody 2 p s0 m args c) {D' : Nat} {cal : Cal SS} (hcal : calOK l G opsS D' cal) (hRm : ∀ k, k ≤ 21 → D' + 1 ≤ R.frames ∧ 8 + (k + 11) + 40 * D' ≤ R.locals) (hret : RetK G A cX12_isBody 113 6344 ad0 p l e R s0 m args below meth c Q opsS ret r .ireturn okZ) : ∀ q ∈ tb_X12_isBody cal, OKi G A 2 113 6344 ad0 p l e R s0 m args below meth c Q opsS ret r q.1 q.2 :=
    okc (ok_iload_n (j := 1) X (by decide +kernel) rfl rfl) (
    okc (ok_iconst (n := 0) X (by decide +kernel) rfl rfl) (
    okc (ok_aload_n (j := 0) X (by decide +kernel) rfl rfl) (
    okc (ok_getI (ci := 12) (kf := 55) (idx := 373) (C := RX12) (T := TX12) (N := 63) X rfl (by decide) inX12 (by decide) wf_X12_373 (fun _ _ _ => rfl) (by decide +kernel) rfl) (
    okc (ok_iconst (n := 1) X (by decide +kernel) rfl rfl) (
    okc (ok_isub X (by decide +kernel) rfl) (
    okc (ok_callS (Y := (yX12_in, cX12_in, 3, (some .boolean))) X hcal opsS_n md_X12_in wc_X12_in wl_X12_134 wi_X12 ws_X12_in (by decide +kernel) (hRm 3 (by decide)) (by decide +kernel) rfl) (
    okc (ok_zret hret (by decide +kernel)) (
    okn))))))))
noncomputable def es_X12_isBody  : List (Nat × En) := [(149, en_X12_in)]
set_option maxRecDepth 100000 in
set_option maxHeartbeats 4000000 in
theorem eq_X12_isBody   (a0 : Int32) (s : SS) : ex (tb_X12_isBody (calE (es_X12_isBody))) rI [] (fun _ _ _ _ => none) 10 0 [some (.ref 74), some (.int a0)] [] s = f_X12_isBody a0 s := by
  rfl
set_option maxRecDepth 100000 in
set_option maxHeartbeats 4000000 in
theorem run_X12_isBody {l : Launch} {G : Gm}   (a0 : Int32) (s : SS) (q : (Int32 × SS)) (h : f_X12_isBody a0 s = some q) (D' : Nat) (hD : 1 ≤ D') : RunsM l G (D' + 1) (md 222) (embS s) [.ref 74, .int a0] (some (.int q.1)) (embS q.2) := by
  rw [md_X12_isBody]
  refine runs_Z (plainFor_of_name (by decide +kernel)) (Nat.le_of_ble_eq_true rfl) rfl ?_
  intro A p e R s0 m args below meth c Q ad0 hR X hret
  have X : Cx G A RX12 cX12_isBody 2 p s0 m args c := X
  have hT := tk_X12_isBody X (calE_ok (es := es_X12_isBody) (enc (en_X12_in_ok _ (by omega)) (enn))) (rmD rfl hR) hret
  rw [← eq_X12_isBody   a0 s] at h
  refine ex_good hT (fun pc' ls' st' x' hh => ?_) 10 0 _ [] s h
  cases hh

noncomputable def en_X12_isBody  : En := fun _ av s k => match av with
  | [.ref r0, .int a0] => (gd (Nat.beq r0 74) (bI (f_X12_isBody a0 s) k))
  | _ => none
set_option maxRecDepth 100000 in
set_option maxHeartbeats 4000000 in
theorem en_X12_isBody_ok {l : Launch} {G : Gm} (D : Nat) (hD : 2 ≤ D) : enOK l G D 222 en_X12_isBody := by
  intro ρ av x k r h
  unfold en_X12_isBody at h
  split at h
  · obtain ⟨g0, h⟩ := gd_some h
    obtain ⟨q, h1, h2⟩ := bind_of h
    have e0 := beq1 g0
    subst e0
    obtain ⟨D', rfl⟩ : ∃ D', D = D' + 1 := ⟨D - 1, by omega⟩
    exact ⟨_, _, h2, run_X12_isBody  _ _ _ h1 D' (by omega)⟩
  · cases h

/-! HatRankModel ran -/
noncomputable def tb_X12_ran (cal : Cal SS) : List (Nat × Ins SS) := [(0, e_aload 0 1), (1, e_getI opsS 12 57 4), (4, e_iconst (24) 6), (6, e_cge 19 9), (9, e_aload 0 10), (10, e_getR opsS 12 58 13), (13, e_aload 0 14), (14, e_getI opsS 12 57 17), (17, e_iload 1 18), (18, e_ast opsS 100 (fun v => v) 19), (19, e_aload 0 20), (20, e_dup 21), (21, e_getI opsS 12 57 24), (24, e_iconst (1) 25), (25, e_bin aAdd 26), (26, e_putI opsS 12 57 29), (29, e_vret)]
set_option maxRecDepth 100000 in
set_option maxHeartbeats 4000000 in
theorem tk_X12_ran {ad0 : Nat → Nat} {G : Gm} {A : Nat → Prop} {p : Program} {l : Launch} {e : Env} {R : Room} {s0 : State} {m : MethodId} {args : Array Value} {below : List Frame} {meth : Method} {c : Code} {Q : State → Prop} {ρ : Type} {ret : Option Value → SS → Option ρ} {r : ρ} (X : Cx G A RX12 cX12_ran 2 p s0 m args c) {D' : Nat} {cal : Cal SS} (hcal : calOK l G opsS D' cal) (hRm : ∀ k, k ≤ 21 → D' + 1 ≤ R.frames ∧ 8 + (k + 11) + 40 * D' ≤ R.locals) (hret : RetK G A cX12_ran 113 6344 ad0 p l e R s0 m args below meth c Q opsS ret r .return_ okV) : ∀ q ∈ tb_X12_ran cal, OKi G A 2 113 6344 ad0 p l e R s0 m args below meth c Q opsS ret r q.1 q.2 :=
    okc (ok_aload_n (j := 0) X (by decide +kernel) rfl rfl) (
    okc (ok_getI (ci := 12) (kf := 57) (idx := 376) (C := RX12) (T := TX12) (N := 63) X rfl (by decide) inX12 (by decide) wf_X12_376 (fun _ _ _ => rfl) (by decide +kernel) rfl) (
    okc (ok_bipush (n := 24) X (by decide +kernel) rfl rfl) (
    okc (ok_cge (off := 13) X (by decide +kernel) (by decide) rfl) (
    okc (ok_aload_n (j := 0) X (by decide +kernel) rfl rfl) (
    okc (ok_getR (ci := 12) (kf := 58) (idx := 111) (C := RX12) (T := TX12) (N := 63) X rfl (by decide) inX12 (by decide) wf_X12_111 (fun _ _ _ => rfl) (by decide +kernel) rfl) (
    okc (ok_aload_n (j := 0) X (by decide +kernel) rfl rfl) (
    okc (ok_getI (ci := 12) (kf := 57) (idx := 376) (C := RX12) (T := TX12) (N := 63) X rfl (by decide) inX12 (by decide) wf_X12_376 (fun _ _ _ => rfl) (by decide +kernel) rfl) (
    okc (ok_iload_n (j := 1) X (by decide +kernel) rfl rfl) (
    okc (ok_iast X opsS_ok (by decide +kernel) rfl) (
    okc (ok_aload_n (j := 0) X (by decide +kernel) rfl rfl) (
    okc (ok_dup X (by decide +kernel) rfl) (
    okc (ok_getI (ci := 12) (kf := 57) (idx := 376) (C := RX12) (T := TX12) (N := 63) X rfl (by decide) inX12 (by decide) wf_X12_376 (fun _ _ _ => rfl) (by decide +kernel) rfl) (
    okc (ok_iconst (n := 1) X (by decide +kernel) rfl rfl) (
    okc (ok_iadd X (by decide +kernel) rfl) (
    okc (ok_putI (ci := 12) (kf := 57) (idx := 376) (C := RX12) (T := TX12) (N := 63) X opsS_ok rfl (by decide) inX12 tyX12_ok nmX12 (by decide) wf_X12_376 rfl (fun _ _ _ => rfl) (by decide +kernel) (by decide +kernel) rfl) (
    okc (ok_vret hret (by decide +kernel)) (
    okn)))))))))))))))))
noncomputable def es_X12_ran  : List (Nat × En) := []
set_option maxRecDepth 100000 in
set_option maxHeartbeats 4000000 in
theorem eq_X12_ran   (a0 : Int32) (s : SS) : ex (tb_X12_ran (calE (es_X12_ran))) rV [] (fun _ _ _ _ => none) 19 0 [some (.ref 74), some (.int a0)] [] s = f_X12_ran a0 s := by
  rfl
set_option maxRecDepth 100000 in
set_option maxHeartbeats 4000000 in
theorem run_X12_ran {l : Launch} {G : Gm}   (a0 : Int32) (s : SS) (q : SS) (h : f_X12_ran a0 s = some q) (D' : Nat) (hD : 0 ≤ D') : RunsM l G (D' + 1) (md 223) (embS s) [.ref 74, .int a0] none (embS q) := by
  rw [md_X12_ran]
  refine runs_V (plainFor_of_name (by decide +kernel)) (Nat.le_of_ble_eq_true rfl) rfl ?_
  intro A p e R s0 m args below meth c Q ad0 hR X hret
  have X : Cx G A RX12 cX12_ran 2 p s0 m args c := X
  have hT := tk_X12_ran X (calE_ok (es := es_X12_ran) (enn)) (rmD rfl hR) hret
  rw [← eq_X12_ran   a0 s] at h
  refine ex_good hT (fun pc' ls' st' x' hh => ?_) 19 0 _ [] s h
  cases hh

noncomputable def en_X12_ran  : En := fun _ av s k => match av with
  | [.ref r0, .int a0] => (gd (Nat.beq r0 74) (bV (f_X12_ran a0 s) k))
  | _ => none
set_option maxRecDepth 100000 in
set_option maxHeartbeats 4000000 in
theorem en_X12_ran_ok {l : Launch} {G : Gm} (D : Nat) (hD : 1 ≤ D) : enOK l G D 223 en_X12_ran := by
  intro ρ av x k r h
  unfold en_X12_ran at h
  split at h
  · obtain ⟨g0, h⟩ := gd_some h
    obtain ⟨q, h1, h2⟩ := bind_of h
    have e0 := beq1 g0
    subst e0
    obtain ⟨D', rfl⟩ : ∃ D', D = D' + 1 := ⟨D - 1, by omega⟩
    exact ⟨_, _, h2, run_X12_ran  _ _ _ h1 D' (by omega)⟩
  · cases h

/-! HatRankModel trace -/
noncomputable def tb_X12_trace (cal : Cal SS) : List (Nat × Ins SS) := [(0, e_iload 1 1), (1, e_iflt 27 4), (4, e_iload 1 5), (5, e_aload 0 6), (6, e_getI opsS 12 57 9), (9, e_cge 27 12), (12, e_iload 1 13), (13, e_iconst (24) 15), (15, e_cge 27 18), (18, e_aload 0 19), (19, e_getR opsS 12 58 22), (22, e_iload 1 23), (23, e_ald opsS 100 24), (24, e_goto 28), (27, e_iconst (-1) 28), (28, e_iret)]
set_option maxRecDepth 100000 in
set_option maxHeartbeats 4000000 in
theorem tk_X12_trace {ad0 : Nat → Nat} {G : Gm} {A : Nat → Prop} {p : Program} {l : Launch} {e : Env} {R : Room} {s0 : State} {m : MethodId} {args : Array Value} {below : List Frame} {meth : Method} {c : Code} {Q : State → Prop} {ρ : Type} {ret : Option Value → SS → Option ρ} {r : ρ} (X : Cx G A RX12 cX12_trace 2 p s0 m args c) {D' : Nat} {cal : Cal SS} (hcal : calOK l G opsS D' cal) (hRm : ∀ k, k ≤ 21 → D' + 1 ≤ R.frames ∧ 8 + (k + 11) + 40 * D' ≤ R.locals) (hret : RetK G A cX12_trace 113 6344 ad0 p l e R s0 m args below meth c Q opsS ret r .ireturn okI) : ∀ q ∈ tb_X12_trace cal, OKi G A 2 113 6344 ad0 p l e R s0 m args below meth c Q opsS ret r q.1 q.2 :=
    okc (ok_iload_n (j := 1) X (by decide +kernel) rfl rfl) (
    okc (ok_iflt (off := 26) X (by decide +kernel) (by decide) rfl) (
    okc (ok_iload_n (j := 1) X (by decide +kernel) rfl rfl) (
    okc (ok_aload_n (j := 0) X (by decide +kernel) rfl rfl) (
    okc (ok_getI (ci := 12) (kf := 57) (idx := 376) (C := RX12) (T := TX12) (N := 63) X rfl (by decide) inX12 (by decide) wf_X12_376 (fun _ _ _ => rfl) (by decide +kernel) rfl) (
    okc (ok_cge (off := 18) X (by decide +kernel) (by decide) rfl) (
    okc (ok_iload_n (j := 1) X (by decide +kernel) rfl rfl) (
    okc (ok_bipush (n := 24) X (by decide +kernel) rfl rfl) (
    okc (ok_cge (off := 12) X (by decide +kernel) (by decide) rfl) (
    okc (ok_aload_n (j := 0) X (by decide +kernel) rfl rfl) (
    okc (ok_getR (ci := 12) (kf := 58) (idx := 111) (C := RX12) (T := TX12) (N := 63) X rfl (by decide) inX12 (by decide) wf_X12_111 (fun _ _ _ => rfl) (by decide +kernel) rfl) (
    okc (ok_iload_n (j := 1) X (by decide +kernel) rfl rfl) (
    okc (ok_iald X (by decide +kernel) rfl) (
    okc (ok_goto (off := 4) X (by decide +kernel) (by decide)) (
    okc (ok_iconst (n := -1) X (by decide +kernel) rfl rfl) (
    okc (ok_iret hret (by decide +kernel)) (
    okn))))))))))))))))
noncomputable def es_X12_trace  : List (Nat × En) := []
set_option maxRecDepth 100000 in
set_option maxHeartbeats 4000000 in
theorem eq_X12_trace   (a0 : Int32) (s : SS) : ex (tb_X12_trace (calE (es_X12_trace))) rI [] (fun _ _ _ _ => none) 18 0 [some (.ref 74), some (.int a0)] [] s = f_X12_trace a0 s := by
  rfl
set_option maxRecDepth 100000 in
set_option maxHeartbeats 4000000 in
theorem run_X12_trace {l : Launch} {G : Gm}   (a0 : Int32) (s : SS) (q : (Int32 × SS)) (h : f_X12_trace a0 s = some q) (D' : Nat) (hD : 0 ≤ D') : RunsM l G (D' + 1) (md 224) (embS s) [.ref 74, .int a0] (some (.int q.1)) (embS q.2) := by
  rw [md_X12_trace]
  refine runs_I (plainFor_of_name (by decide +kernel)) (Nat.le_of_ble_eq_true rfl) rfl ?_
  intro A p e R s0 m args below meth c Q ad0 hR X hret
  have X : Cx G A RX12 cX12_trace 2 p s0 m args c := X
  have hT := tk_X12_trace X (calE_ok (es := es_X12_trace) (enn)) (rmD rfl hR) hret
  rw [← eq_X12_trace   a0 s] at h
  refine ex_good hT (fun pc' ls' st' x' hh => ?_) 18 0 _ [] s h
  cases hh

noncomputable def en_X12_trace  : En := fun _ av s k => match av with
  | [.ref r0, .int a0] => (gd (Nat.beq r0 74) (bI (f_X12_trace a0 s) k))
  | _ => none
set_option maxRecDepth 100000 in
set_option maxHeartbeats 4000000 in
theorem en_X12_trace_ok {l : Launch} {G : Gm} (D : Nat) (hD : 1 ≤ D) : enOK l G D 224 en_X12_trace := by
  intro ρ av x k r h
  unfold en_X12_trace at h
  split at h
  · obtain ⟨g0, h⟩ := gd_some h
    obtain ⟨q, h1, h2⟩ := bind_of h
    have e0 := beq1 g0
    subst e0
    obtain ⟨D', rfl⟩ : ∃ D', D = D' + 1 := ⟨D - 1, by omega⟩
    exact ⟨_, _, h2, run_X12_trace  _ _ _ h1 D' (by omega)⟩
  · cases h

/-! HatRankModel body -/
noncomputable def tb_X12_body (cal : Cal SS) : List (Nat × Ins SS) := [(0, e_iload 1 1), (1, e_iconst (0) 2), (2, e_iconst (7) 4), (4, e_callS cal 149 3 7), (7, e_ifne 12 10), (10, e_iconst (-1) 11), (11, e_iret), (12, e_aload 0 13), (13, e_getI opsS 12 55 16), (16, e_iconst (50) 18), (18, e_cne 24 21), (21, e_iconst (-3) 23), (23, e_iret), (24, e_aload 0 25), (25, e_getR opsS 12 56 28), (28, e_aload 0 29), (29, e_getI opsS 12 55 32), (32, e_iload 1 33), (33, e_ast opsS 100 (fun v => v) 34), (34, e_aload 0 35), (35, e_dup 36), (36, e_getI opsS 12 55 39), (39, e_iconst (1) 40), (40, e_bin aAdd 41), (41, e_putI opsS 12 55 44), (44, e_aload 0 45), (45, e_getI opsS 12 55 48), (48, e_iconst (1) 49), (49, e_bin aSub 50), (50, e_iret)]
set_option maxRecDepth 100000 in
set_option maxHeartbeats 4000000 in
theorem tk_X12_body {ad0 : Nat → Nat} {G : Gm} {A : Nat → Prop} {p : Program} {l : Launch} {e : Env} {R : Room} {s0 : State} {m : MethodId} {args : Array Value} {below : List Frame} {meth : Method} {c : Code} {Q : State → Prop} {ρ : Type} {ret : Option Value → SS → Option ρ} {r : ρ} (X : Cx G A RX12 cX12_body 2 p s0 m args c) {D' : Nat} {cal : Cal SS} (hcal : calOK l G opsS D' cal) (hRm : ∀ k, k ≤ 21 → D' + 1 ≤ R.frames ∧ 8 + (k + 11) + 40 * D' ≤ R.locals) (hret : RetK G A cX12_body 113 6344 ad0 p l e R s0 m args below meth c Q opsS ret r .ireturn okI) : ∀ q ∈ tb_X12_body cal, OKi G A 2 113 6344 ad0 p l e R s0 m args below meth c Q opsS ret r q.1 q.2 :=
    okc (ok_iload_n (j := 1) X (by decide +kernel) rfl rfl) (
    okc (ok_iconst (n := 0) X (by decide +kernel) rfl rfl) (
    okc (ok_bipush (n := 7) X (by decide +kernel) rfl rfl) (
    okc (ok_callS (Y := (yX12_in, cX12_in, 3, (some .boolean))) X hcal opsS_n md_X12_in wc_X12_in wl_X12_134 wi_X12 ws_X12_in (by decide +kernel) (hRm 3 (by decide)) (by decide +kernel) rfl) (
    okc (ok_ifne (off := 5) X (by decide +kernel) (by decide) rfl) (
    okc (ok_iconst (n := -1) X (by decide +kernel) rfl rfl) (
    okc (ok_iret hret (by decide +kernel)) (
    okc (ok_aload_n (j := 0) X (by decide +kernel) rfl rfl) (
    okc (ok_getI (ci := 12) (kf := 55) (idx := 373) (C := RX12) (T := TX12) (N := 63) X rfl (by decide) inX12 (by decide) wf_X12_373 (fun _ _ _ => rfl) (by decide +kernel) rfl) (
    okc (ok_bipush (n := 50) X (by decide +kernel) rfl rfl) (
    okc (ok_cne (off := 6) X (by decide +kernel) (by decide) rfl) (
    okc (ok_bipush (n := -3) X (by decide +kernel) rfl rfl) (
    okc (ok_iret hret (by decide +kernel)) (
    okc (ok_aload_n (j := 0) X (by decide +kernel) rfl rfl) (
    okc (ok_getR (ci := 12) (kf := 56) (idx := 108) (C := RX12) (T := TX12) (N := 63) X rfl (by decide) inX12 (by decide) wf_X12_108 (fun _ _ _ => rfl) (by decide +kernel) rfl) (
    okc (ok_aload_n (j := 0) X (by decide +kernel) rfl rfl) (
    okc (ok_getI (ci := 12) (kf := 55) (idx := 373) (C := RX12) (T := TX12) (N := 63) X rfl (by decide) inX12 (by decide) wf_X12_373 (fun _ _ _ => rfl) (by decide +kernel) rfl) (
    okc (ok_iload_n (j := 1) X (by decide +kernel) rfl rfl) (
    okc (ok_iast X opsS_ok (by decide +kernel) rfl) (
    okc (ok_aload_n (j := 0) X (by decide +kernel) rfl rfl) (
    okc (ok_dup X (by decide +kernel) rfl) (
    okc (ok_getI (ci := 12) (kf := 55) (idx := 373) (C := RX12) (T := TX12) (N := 63) X rfl (by decide) inX12 (by decide) wf_X12_373 (fun _ _ _ => rfl) (by decide +kernel) rfl) (
    okc (ok_iconst (n := 1) X (by decide +kernel) rfl rfl) (
    okc (ok_iadd X (by decide +kernel) rfl) (
    okc (ok_putI (ci := 12) (kf := 55) (idx := 373) (C := RX12) (T := TX12) (N := 63) X opsS_ok rfl (by decide) inX12 tyX12_ok nmX12 (by decide) wf_X12_373 rfl (fun _ _ _ => rfl) (by decide +kernel) (by decide +kernel) rfl) (
    okc (ok_aload_n (j := 0) X (by decide +kernel) rfl rfl) (
    okc (ok_getI (ci := 12) (kf := 55) (idx := 373) (C := RX12) (T := TX12) (N := 63) X rfl (by decide) inX12 (by decide) wf_X12_373 (fun _ _ _ => rfl) (by decide +kernel) rfl) (
    okc (ok_iconst (n := 1) X (by decide +kernel) rfl rfl) (
    okc (ok_isub X (by decide +kernel) rfl) (
    okc (ok_iret hret (by decide +kernel)) (
    okn))))))))))))))))))))))))))))))
noncomputable def es_X12_body  : List (Nat × En) := [(149, en_X12_in)]
set_option maxRecDepth 100000 in
set_option maxHeartbeats 4000000 in
theorem eq_X12_body   (a0 : Int32) (s : SS) : ex (tb_X12_body (calE (es_X12_body))) rI [] (fun _ _ _ _ => none) 32 0 [some (.ref 74), some (.int a0)] [] s = f_X12_body a0 s := by
  rfl
set_option maxRecDepth 100000 in
set_option maxHeartbeats 4000000 in
theorem run_X12_body {l : Launch} {G : Gm}   (a0 : Int32) (s : SS) (q : (Int32 × SS)) (h : f_X12_body a0 s = some q) (D' : Nat) (hD : 1 ≤ D') : RunsM l G (D' + 1) (md 225) (embS s) [.ref 74, .int a0] (some (.int q.1)) (embS q.2) := by
  rw [md_X12_body]
  refine runs_I (plainFor_of_name (by decide +kernel)) (Nat.le_of_ble_eq_true rfl) rfl ?_
  intro A p e R s0 m args below meth c Q ad0 hR X hret
  have X : Cx G A RX12 cX12_body 2 p s0 m args c := X
  have hT := tk_X12_body X (calE_ok (es := es_X12_body) (enc (en_X12_in_ok _ (by omega)) (enn))) (rmD rfl hR) hret
  rw [← eq_X12_body   a0 s] at h
  refine ex_good hT (fun pc' ls' st' x' hh => ?_) 32 0 _ [] s h
  cases hh

noncomputable def en_X12_body  : En := fun _ av s k => match av with
  | [.ref r0, .int a0] => (gd (Nat.beq r0 74) (bI (f_X12_body a0 s) k))
  | _ => none
set_option maxRecDepth 100000 in
set_option maxHeartbeats 4000000 in
theorem en_X12_body_ok {l : Launch} {G : Gm} (D : Nat) (hD : 2 ≤ D) : enOK l G D 225 en_X12_body := by
  intro ρ av x k r h
  unfold en_X12_body at h
  split at h
  · obtain ⟨g0, h⟩ := gd_some h
    obtain ⟨q, h1, h2⟩ := bind_of h
    have e0 := beq1 g0
    subst e0
    obtain ⟨D', rfl⟩ : ∃ D', D = D' + 1 := ⟨D - 1, by omega⟩
    exact ⟨_, _, h2, run_X12_body  _ _ _ h1 D' (by omega)⟩
  · cases h

/-! HatRankModel isUnder -/
noncomputable def tb_X12_isUnder (cal : Cal SS) : List (Nat × Ins SS) := [(0, e_iload 1 1), (1, e_ifeq 56 4), (4, e_iload 0 5), (5, e_iload 1 6), (6, e_ceq 56 9), (9, e_iload 1 10), (10, e_iconst (1) 11), (11, e_cne 19 14), (14, e_iload 0 15), (15, e_iconst (4) 16), (16, e_ceq 56 19), (19, e_iload 1 20), (20, e_iconst (2) 21), (21, e_cne 34 24), (24, e_iload 0 25), (25, e_iconst (3) 26), (26, e_ceq 56 29), (29, e_iload 0 30), (30, e_iconst (5) 31), (31, e_ceq 56 34), (34, e_iload 1 35), (35, e_iconst (3) 36), (36, e_cne 44 39), (39, e_iload 0 40), (40, e_iconst (5) 41), (41, e_ceq 56 44), (44, e_iload 1 45), (45, e_iconst (6) 47), (47, e_cne 60 50), (50, e_iload 0 51), (51, e_iconst (7) 53), (53, e_cne 60 56), (56, e_iconst (1) 57), (57, e_goto 61), (60, e_iconst (0) 61), (61, e_zret)]
set_option maxRecDepth 100000 in
set_option maxHeartbeats 4000000 in
theorem tk_X12_isUnder {ad0 : Nat → Nat} {G : Gm} {A : Nat → Prop} {p : Program} {l : Launch} {e : Env} {R : Room} {s0 : State} {m : MethodId} {args : Array Value} {below : List Frame} {meth : Method} {c : Code} {Q : State → Prop} {ρ : Type} {ret : Option Value → SS → Option ρ} {r : ρ} (X : Cx G A RX12 cX12_isUnder 2 p s0 m args c) {D' : Nat} {cal : Cal SS} (hcal : calOK l G opsS D' cal) (hRm : ∀ k, k ≤ 21 → D' + 1 ≤ R.frames ∧ 8 + (k + 11) + 40 * D' ≤ R.locals) (hret : RetK G A cX12_isUnder 113 6344 ad0 p l e R s0 m args below meth c Q opsS ret r .ireturn okZ) : ∀ q ∈ tb_X12_isUnder cal, OKi G A 2 113 6344 ad0 p l e R s0 m args below meth c Q opsS ret r q.1 q.2 :=
    okc (ok_iload_n (j := 1) X (by decide +kernel) rfl rfl) (
    okc (ok_ifeq (off := 55) X (by decide +kernel) (by decide) rfl) (
    okc (ok_iload_n (j := 0) X (by decide +kernel) rfl rfl) (
    okc (ok_iload_n (j := 1) X (by decide +kernel) rfl rfl) (
    okc (ok_ceq (off := 50) X (by decide +kernel) (by decide) rfl) (
    okc (ok_iload_n (j := 1) X (by decide +kernel) rfl rfl) (
    okc (ok_iconst (n := 1) X (by decide +kernel) rfl rfl) (
    okc (ok_cne (off := 8) X (by decide +kernel) (by decide) rfl) (
    okc (ok_iload_n (j := 0) X (by decide +kernel) rfl rfl) (
    okc (ok_iconst (n := 4) X (by decide +kernel) rfl rfl) (
    okc (ok_ceq (off := 40) X (by decide +kernel) (by decide) rfl) (
    okc (ok_iload_n (j := 1) X (by decide +kernel) rfl rfl) (
    okc (ok_iconst (n := 2) X (by decide +kernel) rfl rfl) (
    okc (ok_cne (off := 13) X (by decide +kernel) (by decide) rfl) (
    okc (ok_iload_n (j := 0) X (by decide +kernel) rfl rfl) (
    okc (ok_iconst (n := 3) X (by decide +kernel) rfl rfl) (
    okc (ok_ceq (off := 30) X (by decide +kernel) (by decide) rfl) (
    okc (ok_iload_n (j := 0) X (by decide +kernel) rfl rfl) (
    okc (ok_iconst (n := 5) X (by decide +kernel) rfl rfl) (
    okc (ok_ceq (off := 25) X (by decide +kernel) (by decide) rfl) (
    okc (ok_iload_n (j := 1) X (by decide +kernel) rfl rfl) (
    okc (ok_iconst (n := 3) X (by decide +kernel) rfl rfl) (
    okc (ok_cne (off := 8) X (by decide +kernel) (by decide) rfl) (
    okc (ok_iload_n (j := 0) X (by decide +kernel) rfl rfl) (
    okc (ok_iconst (n := 5) X (by decide +kernel) rfl rfl) (
    okc (ok_ceq (off := 15) X (by decide +kernel) (by decide) rfl) (
    okc (ok_iload_n (j := 1) X (by decide +kernel) rfl rfl) (
    okc (ok_bipush (n := 6) X (by decide +kernel) rfl rfl) (
    okc (ok_cne (off := 13) X (by decide +kernel) (by decide) rfl) (
    okc (ok_iload_n (j := 0) X (by decide +kernel) rfl rfl) (
    okc (ok_bipush (n := 7) X (by decide +kernel) rfl rfl) (
    okc (ok_cne (off := 7) X (by decide +kernel) (by decide) rfl) (
    okc (ok_iconst (n := 1) X (by decide +kernel) rfl rfl) (
    okc (ok_goto (off := 4) X (by decide +kernel) (by decide)) (
    okc (ok_iconst (n := 0) X (by decide +kernel) rfl rfl) (
    okc (ok_zret hret (by decide +kernel)) (
    okn))))))))))))))))))))))))))))))))))))
noncomputable def es_X12_isUnder  : List (Nat × En) := []
set_option maxRecDepth 100000 in
set_option maxHeartbeats 4000000 in
theorem eq_X12_isUnder   (a0 : Int32) (a1 : Int32) (s : SS) : ex (tb_X12_isUnder (calE (es_X12_isUnder))) rI [] (fun _ _ _ _ => none) 38 0 [some (.int a0), some (.int a1)] [] s = f_X12_isUnder a0 a1 s := by
  rfl
set_option maxRecDepth 100000 in
set_option maxHeartbeats 4000000 in
theorem run_X12_isUnder {l : Launch} {G : Gm}   (a0 : Int32) (a1 : Int32) (s : SS) (q : (Int32 × SS)) (h : f_X12_isUnder a0 a1 s = some q) (D' : Nat) (hD : 0 ≤ D') : RunsM l G (D' + 1) (md 226) (embS s) [.int a0, .int a1] (some (.int q.1)) (embS q.2) := by
  rw [md_X12_isUnder]
  refine runs_Z (plainFor_of_name (by decide +kernel)) (Nat.le_of_ble_eq_true rfl) rfl ?_
  intro A p e R s0 m args below meth c Q ad0 hR X hret
  have X : Cx G A RX12 cX12_isUnder 2 p s0 m args c := X
  have hT := tk_X12_isUnder X (calE_ok (es := es_X12_isUnder) (enn)) (rmD rfl hR) hret
  rw [← eq_X12_isUnder   a0 a1 s] at h
  refine ex_good hT (fun pc' ls' st' x' hh => ?_) 38 0 _ [] s h
  cases hh

noncomputable def en_X12_isUnder  : En := fun _ av s k => match av with
  | [.int a0, .int a1] => (bI (f_X12_isUnder a0 a1 s) k)
  | _ => none
set_option maxRecDepth 100000 in
set_option maxHeartbeats 4000000 in
theorem en_X12_isUnder_ok {l : Launch} {G : Gm} (D : Nat) (hD : 1 ≤ D) : enOK l G D 226 en_X12_isUnder := by
  intro ρ av x k r h
  unfold en_X12_isUnder at h
  split at h
  · obtain ⟨q, h1, h2⟩ := bind_of h
    obtain ⟨D', rfl⟩ : ∃ D', D = D' + 1 := ⟨D - 1, by omega⟩
    exact ⟨_, _, h2, run_X12_isUnder  _ _ _ _ h1 D' (by omega)⟩
  · cases h

/-! HatRankModel plainSits -/
noncomputable def tb_X12_plainSits (cal : Cal SS) : List (Nat × Ins SS) := [(0, e_aload 0 1), (1, e_iconst (1) 2), (2, e_callV opsS cal 223 1 12 5), (5, e_iload 2 6), (6, e_iload 1 7), (7, e_bin aAdd 8), (8, e_iret)]
set_option maxRecDepth 100000 in
set_option maxHeartbeats 4000000 in
theorem tk_X12_plainSits {ad0 : Nat → Nat} {G : Gm} {A : Nat → Prop} {p : Program} {l : Launch} {e : Env} {R : Room} {s0 : State} {m : MethodId} {args : Array Value} {below : List Frame} {meth : Method} {c : Code} {Q : State → Prop} {ρ : Type} {ret : Option Value → SS → Option ρ} {r : ρ} (X : Cx G A RX12 cX12_plainSits 3 p s0 m args c) {D' : Nat} {cal : Cal SS} (hcal : calOK l G opsS D' cal) (hRm : ∀ k, k ≤ 21 → D' + 1 ≤ R.frames ∧ 8 + (k + 11) + 40 * D' ≤ R.locals) (hret : RetK G A cX12_plainSits 113 6344 ad0 p l e R s0 m args below meth c Q opsS ret r .ireturn okI) : ∀ q ∈ tb_X12_plainSits cal, OKi G A 3 113 6344 ad0 p l e R s0 m args below meth c Q opsS ret r q.1 q.2 :=
    okc (ok_aload_n (j := 0) X (by decide +kernel) rfl rfl) (
    okc (ok_iconst (n := 1) X (by decide +kernel) rfl rfl) (
    okc (ok_callV (ci := 12) (C := RX12) (T := TX12) (N := 63) (Y := (yX12_ran, cX12_ran, 2, none)) X hcal opsS_n md_X12_ran rfl (by decide) rfl wc_X12_ran wl_X12_379 wi_X12 wm_X12_ran wv_X12_ran (by decide +kernel) (hRm 2 (by decide)) (by decide +kernel) rfl) (
    okc (ok_iload_n (j := 2) X (by decide +kernel) rfl rfl) (
    okc (ok_iload_n (j := 1) X (by decide +kernel) rfl rfl) (
    okc (ok_iadd X (by decide +kernel) rfl) (
    okc (ok_iret hret (by decide +kernel)) (
    okn)))))))
noncomputable def es_X12_plainSits  : List (Nat × En) := [(223, en_X12_ran)]
set_option maxRecDepth 100000 in
set_option maxHeartbeats 4000000 in
theorem eq_X12_plainSits   (a0 : Int32) (a1 : Int32) (s : SS) : ex (tb_X12_plainSits (calE (es_X12_plainSits))) rI [] (fun _ _ _ _ => none) 9 0 [some (.ref 74), some (.int a0), some (.int a1)] [] s = f_X12_plainSits a0 a1 s := by
  rfl
set_option maxRecDepth 100000 in
set_option maxHeartbeats 4000000 in
theorem run_X12_plainSits {l : Launch} {G : Gm}   (a0 : Int32) (a1 : Int32) (s : SS) (q : (Int32 × SS)) (h : f_X12_plainSits a0 a1 s = some q) (D' : Nat) (hD : 1 ≤ D') : RunsM l G (D' + 1) (md 227) (embS s) [.ref 74, .int a0, .int a1] (some (.int q.1)) (embS q.2) := by
  rw [md_X12_plainSits]
  refine runs_I (plainFor_of_name (by decide +kernel)) (Nat.le_of_ble_eq_true rfl) rfl ?_
  intro A p e R s0 m args below meth c Q ad0 hR X hret
  have X : Cx G A RX12 cX12_plainSits 3 p s0 m args c := X
  have hT := tk_X12_plainSits X (calE_ok (es := es_X12_plainSits) (enc (en_X12_ran_ok _ (by omega)) (enn))) (rmD rfl hR) hret
  rw [← eq_X12_plainSits   a0 a1 s] at h
  refine ex_good hT (fun pc' ls' st' x' hh => ?_) 9 0 _ [] s h
  cases hh

noncomputable def en_X12_plainSits  : En := fun _ av s k => match av with
  | [.ref r0, .int a0, .int a1] => (gd (Nat.beq r0 74) (bI (f_X12_plainSits a0 a1 s) k))
  | _ => none
set_option maxRecDepth 100000 in
set_option maxHeartbeats 4000000 in
theorem en_X12_plainSits_ok {l : Launch} {G : Gm} (D : Nat) (hD : 2 ≤ D) : enOK l G D 227 en_X12_plainSits := by
  intro ρ av x k r h
  unfold en_X12_plainSits at h
  split at h
  · obtain ⟨g0, h⟩ := gd_some h
    obtain ⟨q, h1, h2⟩ := bind_of h
    have e0 := beq1 g0
    subst e0
    obtain ⟨D', rfl⟩ : ∃ D', D = D' + 1 := ⟨D - 1, by omega⟩
    exact ⟨_, _, h2, run_X12_plainSits  _ _ _ _ h1 D' (by omega)⟩
  · cases h

/-! HatRankModel newSits -/
noncomputable def tb_X12_newSits (cal : Cal SS) : List (Nat × Ins SS) := [(0, e_aload 0 1), (1, e_iconst (70) 3), (3, e_callV opsS cal 223 1 12 6), (6, e_aload 0 7), (7, e_iload 1 8), (8, e_iload 2 9), (9, e_callV opsS cal 227 2 12 12), (12, e_iconst (2) 13), (13, e_bin aMul 14), (14, e_iret)]
set_option maxRecDepth 100000 in
set_option maxHeartbeats 4000000 in
theorem tk_X12_newSits {ad0 : Nat → Nat} {G : Gm} {A : Nat → Prop} {p : Program} {l : Launch} {e : Env} {R : Room} {s0 : State} {m : MethodId} {args : Array Value} {below : List Frame} {meth : Method} {c : Code} {Q : State → Prop} {ρ : Type} {ret : Option Value → SS → Option ρ} {r : ρ} (X : Cx G A RX12 cX12_newSits 3 p s0 m args c) {D' : Nat} {cal : Cal SS} (hcal : calOK l G opsS D' cal) (hRm : ∀ k, k ≤ 21 → D' + 1 ≤ R.frames ∧ 8 + (k + 11) + 40 * D' ≤ R.locals) (hret : RetK G A cX12_newSits 113 6344 ad0 p l e R s0 m args below meth c Q opsS ret r .ireturn okI) : ∀ q ∈ tb_X12_newSits cal, OKi G A 3 113 6344 ad0 p l e R s0 m args below meth c Q opsS ret r q.1 q.2 :=
    okc (ok_aload_n (j := 0) X (by decide +kernel) rfl rfl) (
    okc (ok_bipush (n := 70) X (by decide +kernel) rfl rfl) (
    okc (ok_callV (ci := 12) (C := RX12) (T := TX12) (N := 63) (Y := (yX12_ran, cX12_ran, 2, none)) X hcal opsS_n md_X12_ran rfl (by decide) rfl wc_X12_ran wl_X12_379 wi_X12 wm_X12_ran wv_X12_ran (by decide +kernel) (hRm 2 (by decide)) (by decide +kernel) rfl) (
    okc (ok_aload_n (j := 0) X (by decide +kernel) rfl rfl) (
    okc (ok_iload_n (j := 1) X (by decide +kernel) rfl rfl) (
    okc (ok_iload_n (j := 2) X (by decide +kernel) rfl rfl) (
    okc (ok_callV (ci := 12) (C := RX12) (T := TX12) (N := 63) (Y := (yX12_plainSits, cX12_plainSits, 3, (some .int))) X hcal opsS_n md_X12_plainSits rfl (by decide) rfl wc_X12_plainSits wl_X12_382 wi_X12 wm_X12_plainSits wv_X12_plainSits (by decide +kernel) (hRm 3 (by decide)) (by decide +kernel) rfl) (
    okc (ok_iconst (n := 2) X (by decide +kernel) rfl rfl) (
    okc (ok_imul X (by decide +kernel) rfl) (
    okc (ok_iret hret (by decide +kernel)) (
    okn))))))))))
noncomputable def es_X12_newSits  : List (Nat × En) := [(223, en_X12_ran), (227, en_X12_plainSits)]
set_option maxRecDepth 100000 in
set_option maxHeartbeats 4000000 in
theorem eq_X12_newSits   (a0 : Int32) (a1 : Int32) (s : SS) : ex (tb_X12_newSits (calE (es_X12_newSits))) rI [] (fun _ _ _ _ => none) 12 0 [some (.ref 74), some (.int a0), some (.int a1)] [] s = f_X12_newSits a0 a1 s := by
  rfl
set_option maxRecDepth 100000 in
set_option maxHeartbeats 4000000 in
theorem run_X12_newSits {l : Launch} {G : Gm}   (a0 : Int32) (a1 : Int32) (s : SS) (q : (Int32 × SS)) (h : f_X12_newSits a0 a1 s = some q) (D' : Nat) (hD : 2 ≤ D') : RunsM l G (D' + 1) (md 228) (embS s) [.ref 74, .int a0, .int a1] (some (.int q.1)) (embS q.2) := by
  rw [md_X12_newSits]
  refine runs_I (plainFor_of_name (by decide +kernel)) (Nat.le_of_ble_eq_true rfl) rfl ?_
  intro A p e R s0 m args below meth c Q ad0 hR X hret
  have X : Cx G A RX12 cX12_newSits 3 p s0 m args c := X
  have hT := tk_X12_newSits X (calE_ok (es := es_X12_newSits) (enc (en_X12_ran_ok _ (by omega)) (enc (en_X12_plainSits_ok _ (by omega)) (enn)))) (rmD rfl hR) hret
  rw [← eq_X12_newSits   a0 a1 s] at h
  refine ex_good hT (fun pc' ls' st' x' hh => ?_) 12 0 _ [] s h
  cases hh

noncomputable def en_X12_newSits  : En := fun _ av s k => match av with
  | [.ref r0, .int a0, .int a1] => (gd (Nat.beq r0 74) (bI (f_X12_newSits a0 a1 s) k))
  | _ => none
set_option maxRecDepth 100000 in
set_option maxHeartbeats 4000000 in
theorem en_X12_newSits_ok {l : Launch} {G : Gm} (D : Nat) (hD : 3 ≤ D) : enOK l G D 228 en_X12_newSits := by
  intro ρ av x k r h
  unfold en_X12_newSits at h
  split at h
  · obtain ⟨g0, h⟩ := gd_some h
    obtain ⟨q, h1, h2⟩ := bind_of h
    have e0 := beq1 g0
    subst e0
    obtain ⟨D', rfl⟩ : ∃ D', D = D' + 1 := ⟨D - 1, by omega⟩
    exact ⟨_, _, h2, run_X12_newSits  _ _ _ _ h1 D' (by omega)⟩
  · cases h

/-! HatRankModel sitting -/
noncomputable def tb_X12_sitting (cal : Cal SS) : List (Nat × Ins SS) := [(0, e_aload 0 1), (1, e_getR opsS 12 56 4), (4, e_iload 1 5), (5, e_ald opsS 100 6), (6, e_iconst (1) 7), (7, e_callS cal 226 2 10), (10, e_ifeq 28 13), (13, e_aload 0 14), (14, e_iconst (20) 16), (16, e_callV opsS cal 223 1 12 19), (19, e_aload 0 20), (20, e_iload 1 21), (21, e_iload 2 22), (22, e_callV opsS cal 227 2 12 25), (25, e_iconst (3) 26), (26, e_bin aAdd 27), (27, e_iret), (28, e_aload 0 29), (29, e_getR opsS 12 56 32), (32, e_iload 1 33), (33, e_ald opsS 100 34), (34, e_iconst (7) 36), (36, e_cne 54 39), (39, e_aload 0 40), (40, e_iconst (81) 42), (42, e_callV opsS cal 223 1 12 45), (45, e_aload 0 46), (46, e_iload 1 47), (47, e_iload 2 48), (48, e_callV opsS cal 228 2 12 51), (51, e_iconst (1) 52), (52, e_bin aSub 53), (53, e_iret), (54, e_aload 0 55), (55, e_getR opsS 12 56 58), (58, e_iload 1 59), (59, e_ald opsS 100 60), (60, e_iconst (6) 62), (62, e_cne 74 65), (65, e_aload 0 66), (66, e_iload 1 67), (67, e_iload 2 68), (68, e_callV opsS cal 228 2 12 71), (71, e_goto 80), (74, e_aload 0 75), (75, e_iload 1 76), (76, e_iload 2 77), (77, e_callV opsS cal 227 2 12 80), (80, e_iret)]
set_option maxRecDepth 100000 in
set_option maxHeartbeats 4000000 in
theorem tk_X12_sitting {ad0 : Nat → Nat} {G : Gm} {A : Nat → Prop} {p : Program} {l : Launch} {e : Env} {R : Room} {s0 : State} {m : MethodId} {args : Array Value} {below : List Frame} {meth : Method} {c : Code} {Q : State → Prop} {ρ : Type} {ret : Option Value → SS → Option ρ} {r : ρ} (X : Cx G A RX12 cX12_sitting 3 p s0 m args c) {D' : Nat} {cal : Cal SS} (hcal : calOK l G opsS D' cal) (hRm : ∀ k, k ≤ 21 → D' + 1 ≤ R.frames ∧ 8 + (k + 11) + 40 * D' ≤ R.locals) (hret : RetK G A cX12_sitting 113 6344 ad0 p l e R s0 m args below meth c Q opsS ret r .ireturn okI) : ∀ q ∈ tb_X12_sitting cal, OKi G A 3 113 6344 ad0 p l e R s0 m args below meth c Q opsS ret r q.1 q.2 :=
    okc (ok_aload_n (j := 0) X (by decide +kernel) rfl rfl) (
    okc (ok_getR (ci := 12) (kf := 56) (idx := 108) (C := RX12) (T := TX12) (N := 63) X rfl (by decide) inX12 (by decide) wf_X12_108 (fun _ _ _ => rfl) (by decide +kernel) rfl) (
    okc (ok_iload_n (j := 1) X (by decide +kernel) rfl rfl) (
    okc (ok_iald X (by decide +kernel) rfl) (
    okc (ok_iconst (n := 1) X (by decide +kernel) rfl rfl) (
    okc (ok_callS (Y := (yX12_isUnder, cX12_isUnder, 2, (some .boolean))) X hcal opsS_n md_X12_isUnder wc_X12_isUnder wl_X12_385 wi_X12 ws_X12_isUnder (by decide +kernel) (hRm 2 (by decide)) (by decide +kernel) rfl) (
    okc (ok_ifeq (off := 18) X (by decide +kernel) (by decide) rfl) (
    okc (ok_aload_n (j := 0) X (by decide +kernel) rfl rfl) (
    okc (ok_bipush (n := 20) X (by decide +kernel) rfl rfl) (
    okc (ok_callV (ci := 12) (C := RX12) (T := TX12) (N := 63) (Y := (yX12_ran, cX12_ran, 2, none)) X hcal opsS_n md_X12_ran rfl (by decide) rfl wc_X12_ran wl_X12_379 wi_X12 wm_X12_ran wv_X12_ran (by decide +kernel) (hRm 2 (by decide)) (by decide +kernel) rfl) (
    okc (ok_aload_n (j := 0) X (by decide +kernel) rfl rfl) (
    okc (ok_iload_n (j := 1) X (by decide +kernel) rfl rfl) (
    okc (ok_iload_n (j := 2) X (by decide +kernel) rfl rfl) (
    okc (ok_callV (ci := 12) (C := RX12) (T := TX12) (N := 63) (Y := (yX12_plainSits, cX12_plainSits, 3, (some .int))) X hcal opsS_n md_X12_plainSits rfl (by decide) rfl wc_X12_plainSits wl_X12_382 wi_X12 wm_X12_plainSits wv_X12_plainSits (by decide +kernel) (hRm 3 (by decide)) (by decide +kernel) rfl) (
    okc (ok_iconst (n := 3) X (by decide +kernel) rfl rfl) (
    okc (ok_iadd X (by decide +kernel) rfl) (
    okc (ok_iret hret (by decide +kernel)) (
    okc (ok_aload_n (j := 0) X (by decide +kernel) rfl rfl) (
    okc (ok_getR (ci := 12) (kf := 56) (idx := 108) (C := RX12) (T := TX12) (N := 63) X rfl (by decide) inX12 (by decide) wf_X12_108 (fun _ _ _ => rfl) (by decide +kernel) rfl) (
    okc (ok_iload_n (j := 1) X (by decide +kernel) rfl rfl) (
    okc (ok_iald X (by decide +kernel) rfl) (
    okc (ok_bipush (n := 7) X (by decide +kernel) rfl rfl) (
    okc (ok_cne (off := 18) X (by decide +kernel) (by decide) rfl) (
    okc (ok_aload_n (j := 0) X (by decide +kernel) rfl rfl) (
    okc (ok_bipush (n := 81) X (by decide +kernel) rfl rfl) (
    okc (ok_callV (ci := 12) (C := RX12) (T := TX12) (N := 63) (Y := (yX12_ran, cX12_ran, 2, none)) X hcal opsS_n md_X12_ran rfl (by decide) rfl wc_X12_ran wl_X12_379 wi_X12 wm_X12_ran wv_X12_ran (by decide +kernel) (hRm 2 (by decide)) (by decide +kernel) rfl) (
    okc (ok_aload_n (j := 0) X (by decide +kernel) rfl rfl) (
    okc (ok_iload_n (j := 1) X (by decide +kernel) rfl rfl) (
    okc (ok_iload_n (j := 2) X (by decide +kernel) rfl rfl) (
    okc (ok_callV (ci := 12) (C := RX12) (T := TX12) (N := 63) (Y := (yX12_newSits, cX12_newSits, 3, (some .int))) X hcal opsS_n md_X12_newSits rfl (by decide) rfl wc_X12_newSits wl_X12_388 wi_X12 wm_X12_newSits wv_X12_newSits (by decide +kernel) (hRm 3 (by decide)) (by decide +kernel) rfl) (
    okc (ok_iconst (n := 1) X (by decide +kernel) rfl rfl) (
    okc (ok_isub X (by decide +kernel) rfl) (
    okc (ok_iret hret (by decide +kernel)) (
    okc (ok_aload_n (j := 0) X (by decide +kernel) rfl rfl) (
    okc (ok_getR (ci := 12) (kf := 56) (idx := 108) (C := RX12) (T := TX12) (N := 63) X rfl (by decide) inX12 (by decide) wf_X12_108 (fun _ _ _ => rfl) (by decide +kernel) rfl) (
    okc (ok_iload_n (j := 1) X (by decide +kernel) rfl rfl) (
    okc (ok_iald X (by decide +kernel) rfl) (
    okc (ok_bipush (n := 6) X (by decide +kernel) rfl rfl) (
    okc (ok_cne (off := 12) X (by decide +kernel) (by decide) rfl) (
    okc (ok_aload_n (j := 0) X (by decide +kernel) rfl rfl) (
    okc (ok_iload_n (j := 1) X (by decide +kernel) rfl rfl) (
    okc (ok_iload_n (j := 2) X (by decide +kernel) rfl rfl) (
    okc (ok_callV (ci := 12) (C := RX12) (T := TX12) (N := 63) (Y := (yX12_newSits, cX12_newSits, 3, (some .int))) X hcal opsS_n md_X12_newSits rfl (by decide) rfl wc_X12_newSits wl_X12_388 wi_X12 wm_X12_newSits wv_X12_newSits (by decide +kernel) (hRm 3 (by decide)) (by decide +kernel) rfl) (
    okc (ok_goto (off := 9) X (by decide +kernel) (by decide)) (
    okc (ok_aload_n (j := 0) X (by decide +kernel) rfl rfl) (
    okc (ok_iload_n (j := 1) X (by decide +kernel) rfl rfl) (
    okc (ok_iload_n (j := 2) X (by decide +kernel) rfl rfl) (
    okc (ok_callV (ci := 12) (C := RX12) (T := TX12) (N := 63) (Y := (yX12_plainSits, cX12_plainSits, 3, (some .int))) X hcal opsS_n md_X12_plainSits rfl (by decide) rfl wc_X12_plainSits wl_X12_382 wi_X12 wm_X12_plainSits wv_X12_plainSits (by decide +kernel) (hRm 3 (by decide)) (by decide +kernel) rfl) (
    okc (ok_iret hret (by decide +kernel)) (
    okn)))))))))))))))))))))))))))))))))))))))))))))))))
noncomputable def es_X12_sitting  : List (Nat × En) := [(226, en_X12_isUnder), (223, en_X12_ran), (227, en_X12_plainSits), (228, en_X12_newSits)]
set_option maxRecDepth 100000 in
set_option maxHeartbeats 4000000 in
theorem eq_X12_sitting   (a0 : Int32) (a1 : Int32) (s : SS) : ex (tb_X12_sitting (calE (es_X12_sitting))) rI [] (fun _ _ _ _ => none) 51 0 [some (.ref 74), some (.int a0), some (.int a1)] [] s = f_X12_sitting a0 a1 s := by
  rfl
set_option maxRecDepth 100000 in
set_option maxHeartbeats 4000000 in
theorem run_X12_sitting {l : Launch} {G : Gm}   (a0 : Int32) (a1 : Int32) (s : SS) (q : (Int32 × SS)) (h : f_X12_sitting a0 a1 s = some q) (D' : Nat) (hD : 3 ≤ D') : RunsM l G (D' + 1) (md 229) (embS s) [.ref 74, .int a0, .int a1] (some (.int q.1)) (embS q.2) := by
  rw [md_X12_sitting]
  refine runs_I (plainFor_of_name (by decide +kernel)) (Nat.le_of_ble_eq_true rfl) rfl ?_
  intro A p e R s0 m args below meth c Q ad0 hR X hret
  have X : Cx G A RX12 cX12_sitting 3 p s0 m args c := X
  have hT := tk_X12_sitting X (calE_ok (es := es_X12_sitting) (enc (en_X12_isUnder_ok _ (by omega)) (enc (en_X12_ran_ok _ (by omega)) (enc (en_X12_plainSits_ok _ (by omega)) (enc (en_X12_newSits_ok _ (by omega)) (enn)))))) (rmD rfl hR) hret
  rw [← eq_X12_sitting   a0 a1 s] at h
  refine ex_good hT (fun pc' ls' st' x' hh => ?_) 51 0 _ [] s h
  cases hh

noncomputable def en_X12_sitting  : En := fun _ av s k => match av with
  | [.ref r0, .int a0, .int a1] => (gd (Nat.beq r0 74) (bI (f_X12_sitting a0 a1 s) k))
  | _ => none
set_option maxRecDepth 100000 in
set_option maxHeartbeats 4000000 in
theorem en_X12_sitting_ok {l : Launch} {G : Gm} (D : Nat) (hD : 4 ≤ D) : enOK l G D 229 en_X12_sitting := by
  intro ρ av x k r h
  unfold en_X12_sitting at h
  split at h
  · obtain ⟨g0, h⟩ := gd_some h
    obtain ⟨q, h1, h2⟩ := bind_of h
    have e0 := beq1 g0
    subst e0
    obtain ⟨D', rfl⟩ : ∃ D', D = D' + 1 := ⟨D - 1, by omega⟩
    exact ⟨_, _, h2, run_X12_sitting  _ _ _ _ h1 D' (by omega)⟩
  · cases h

/-! HatRankModel plainFalls -/
noncomputable def tb_X12_plainFalls (cal : Cal SS) : List (Nat × Ins SS) := [(0, e_aload 0 1), (1, e_iconst (10) 3), (3, e_callV opsS cal 223 1 12 6), (6, e_aload 0 7), (7, e_iload 1 8), (8, e_iload 2 9), (9, e_callV opsS cal 229 2 12 12), (12, e_iconst (2) 13), (13, e_bin aMul 14), (14, e_iret)]
set_option maxRecDepth 100000 in
set_option maxHeartbeats 4000000 in
theorem tk_X12_plainFalls {ad0 : Nat → Nat} {G : Gm} {A : Nat → Prop} {p : Program} {l : Launch} {e : Env} {R : Room} {s0 : State} {m : MethodId} {args : Array Value} {below : List Frame} {meth : Method} {c : Code} {Q : State → Prop} {ρ : Type} {ret : Option Value → SS → Option ρ} {r : ρ} (X : Cx G A RX12 cX12_plainFalls 3 p s0 m args c) {D' : Nat} {cal : Cal SS} (hcal : calOK l G opsS D' cal) (hRm : ∀ k, k ≤ 21 → D' + 1 ≤ R.frames ∧ 8 + (k + 11) + 40 * D' ≤ R.locals) (hret : RetK G A cX12_plainFalls 113 6344 ad0 p l e R s0 m args below meth c Q opsS ret r .ireturn okI) : ∀ q ∈ tb_X12_plainFalls cal, OKi G A 3 113 6344 ad0 p l e R s0 m args below meth c Q opsS ret r q.1 q.2 :=
    okc (ok_aload_n (j := 0) X (by decide +kernel) rfl rfl) (
    okc (ok_bipush (n := 10) X (by decide +kernel) rfl rfl) (
    okc (ok_callV (ci := 12) (C := RX12) (T := TX12) (N := 63) (Y := (yX12_ran, cX12_ran, 2, none)) X hcal opsS_n md_X12_ran rfl (by decide) rfl wc_X12_ran wl_X12_379 wi_X12 wm_X12_ran wv_X12_ran (by decide +kernel) (hRm 2 (by decide)) (by decide +kernel) rfl) (
    okc (ok_aload_n (j := 0) X (by decide +kernel) rfl rfl) (
    okc (ok_iload_n (j := 1) X (by decide +kernel) rfl rfl) (
    okc (ok_iload_n (j := 2) X (by decide +kernel) rfl rfl) (
    okc (ok_callV (ci := 12) (C := RX12) (T := TX12) (N := 63) (Y := (yX12_sitting, cX12_sitting, 3, (some .int))) X hcal opsS_n md_X12_sitting rfl (by decide) rfl wc_X12_sitting wl_X12_391 wi_X12 wm_X12_sitting wv_X12_sitting (by decide +kernel) (hRm 3 (by decide)) (by decide +kernel) rfl) (
    okc (ok_iconst (n := 2) X (by decide +kernel) rfl rfl) (
    okc (ok_imul X (by decide +kernel) rfl) (
    okc (ok_iret hret (by decide +kernel)) (
    okn))))))))))
noncomputable def es_X12_plainFalls  : List (Nat × En) := [(223, en_X12_ran), (229, en_X12_sitting)]
set_option maxRecDepth 100000 in
set_option maxHeartbeats 4000000 in
theorem eq_X12_plainFalls   (a0 : Int32) (a1 : Int32) (s : SS) : ex (tb_X12_plainFalls (calE (es_X12_plainFalls))) rI [] (fun _ _ _ _ => none) 12 0 [some (.ref 74), some (.int a0), some (.int a1)] [] s = f_X12_plainFalls a0 a1 s := by
  rfl
set_option maxRecDepth 100000 in
set_option maxHeartbeats 4000000 in
theorem run_X12_plainFalls {l : Launch} {G : Gm}   (a0 : Int32) (a1 : Int32) (s : SS) (q : (Int32 × SS)) (h : f_X12_plainFalls a0 a1 s = some q) (D' : Nat) (hD : 4 ≤ D') : RunsM l G (D' + 1) (md 230) (embS s) [.ref 74, .int a0, .int a1] (some (.int q.1)) (embS q.2) := by
  rw [md_X12_plainFalls]
  refine runs_I (plainFor_of_name (by decide +kernel)) (Nat.le_of_ble_eq_true rfl) rfl ?_
  intro A p e R s0 m args below meth c Q ad0 hR X hret
  have X : Cx G A RX12 cX12_plainFalls 3 p s0 m args c := X
  have hT := tk_X12_plainFalls X (calE_ok (es := es_X12_plainFalls) (enc (en_X12_ran_ok _ (by omega)) (enc (en_X12_sitting_ok _ (by omega)) (enn)))) (rmD rfl hR) hret
  rw [← eq_X12_plainFalls   a0 a1 s] at h
  refine ex_good hT (fun pc' ls' st' x' hh => ?_) 12 0 _ [] s h
  cases hh

noncomputable def en_X12_plainFalls  : En := fun _ av s k => match av with
  | [.ref r0, .int a0, .int a1] => (gd (Nat.beq r0 74) (bI (f_X12_plainFalls a0 a1 s) k))
  | _ => none
set_option maxRecDepth 100000 in
set_option maxHeartbeats 4000000 in
theorem en_X12_plainFalls_ok {l : Launch} {G : Gm} (D : Nat) (hD : 5 ≤ D) : enOK l G D 230 en_X12_plainFalls := by
  intro ρ av x k r h
  unfold en_X12_plainFalls at h
  split at h
  · obtain ⟨g0, h⟩ := gd_some h
    obtain ⟨q, h1, h2⟩ := bind_of h
    have e0 := beq1 g0
    subst e0
    obtain ⟨D', rfl⟩ : ∃ D', D = D' + 1 := ⟨D - 1, by omega⟩
    exact ⟨_, _, h2, run_X12_plainFalls  _ _ _ _ h1 D' (by omega)⟩
  · cases h

/-! HatRankModel blownFalls -/
noncomputable def tb_X12_blownFalls (cal : Cal SS) : List (Nat × Ins SS) := [(0, e_aload 0 1), (1, e_iconst (30) 3), (3, e_callV opsS cal 223 1 12 6), (6, e_aload 0 7), (7, e_iload 1 8), (8, e_iload 2 9), (9, e_callV opsS cal 230 2 12 12), (12, e_un aNeg 13), (13, e_iret)]
set_option maxRecDepth 100000 in
set_option maxHeartbeats 4000000 in
theorem tk_X12_blownFalls {ad0 : Nat → Nat} {G : Gm} {A : Nat → Prop} {p : Program} {l : Launch} {e : Env} {R : Room} {s0 : State} {m : MethodId} {args : Array Value} {below : List Frame} {meth : Method} {c : Code} {Q : State → Prop} {ρ : Type} {ret : Option Value → SS → Option ρ} {r : ρ} (X : Cx G A RX12 cX12_blownFalls 3 p s0 m args c) {D' : Nat} {cal : Cal SS} (hcal : calOK l G opsS D' cal) (hRm : ∀ k, k ≤ 21 → D' + 1 ≤ R.frames ∧ 8 + (k + 11) + 40 * D' ≤ R.locals) (hret : RetK G A cX12_blownFalls 113 6344 ad0 p l e R s0 m args below meth c Q opsS ret r .ireturn okI) : ∀ q ∈ tb_X12_blownFalls cal, OKi G A 3 113 6344 ad0 p l e R s0 m args below meth c Q opsS ret r q.1 q.2 :=
    okc (ok_aload_n (j := 0) X (by decide +kernel) rfl rfl) (
    okc (ok_bipush (n := 30) X (by decide +kernel) rfl rfl) (
    okc (ok_callV (ci := 12) (C := RX12) (T := TX12) (N := 63) (Y := (yX12_ran, cX12_ran, 2, none)) X hcal opsS_n md_X12_ran rfl (by decide) rfl wc_X12_ran wl_X12_379 wi_X12 wm_X12_ran wv_X12_ran (by decide +kernel) (hRm 2 (by decide)) (by decide +kernel) rfl) (
    okc (ok_aload_n (j := 0) X (by decide +kernel) rfl rfl) (
    okc (ok_iload_n (j := 1) X (by decide +kernel) rfl rfl) (
    okc (ok_iload_n (j := 2) X (by decide +kernel) rfl rfl) (
    okc (ok_callV (ci := 12) (C := RX12) (T := TX12) (N := 63) (Y := (yX12_plainFalls, cX12_plainFalls, 3, (some .int))) X hcal opsS_n md_X12_plainFalls rfl (by decide) rfl wc_X12_plainFalls wl_X12_394 wi_X12 wm_X12_plainFalls wv_X12_plainFalls (by decide +kernel) (hRm 3 (by decide)) (by decide +kernel) rfl) (
    okc (ok_ineg X (by decide +kernel) rfl) (
    okc (ok_iret hret (by decide +kernel)) (
    okn)))))))))
noncomputable def es_X12_blownFalls  : List (Nat × En) := [(223, en_X12_ran), (230, en_X12_plainFalls)]
set_option maxRecDepth 100000 in
set_option maxHeartbeats 4000000 in
theorem eq_X12_blownFalls   (a0 : Int32) (a1 : Int32) (s : SS) : ex (tb_X12_blownFalls (calE (es_X12_blownFalls))) rI [] (fun _ _ _ _ => none) 11 0 [some (.ref 74), some (.int a0), some (.int a1)] [] s = f_X12_blownFalls a0 a1 s := by
  rfl
set_option maxRecDepth 100000 in
set_option maxHeartbeats 4000000 in
theorem run_X12_blownFalls {l : Launch} {G : Gm}   (a0 : Int32) (a1 : Int32) (s : SS) (q : (Int32 × SS)) (h : f_X12_blownFalls a0 a1 s = some q) (D' : Nat) (hD : 5 ≤ D') : RunsM l G (D' + 1) (md 231) (embS s) [.ref 74, .int a0, .int a1] (some (.int q.1)) (embS q.2) := by
  rw [md_X12_blownFalls]
  refine runs_I (plainFor_of_name (by decide +kernel)) (Nat.le_of_ble_eq_true rfl) rfl ?_
  intro A p e R s0 m args below meth c Q ad0 hR X hret
  have X : Cx G A RX12 cX12_blownFalls 3 p s0 m args c := X
  have hT := tk_X12_blownFalls X (calE_ok (es := es_X12_blownFalls) (enc (en_X12_ran_ok _ (by omega)) (enc (en_X12_plainFalls_ok _ (by omega)) (enn)))) (rmD rfl hR) hret
  rw [← eq_X12_blownFalls   a0 a1 s] at h
  refine ex_good hT (fun pc' ls' st' x' hh => ?_) 11 0 _ [] s h
  cases hh

noncomputable def en_X12_blownFalls  : En := fun _ av s k => match av with
  | [.ref r0, .int a0, .int a1] => (gd (Nat.beq r0 74) (bI (f_X12_blownFalls a0 a1 s) k))
  | _ => none
set_option maxRecDepth 100000 in
set_option maxHeartbeats 4000000 in
theorem en_X12_blownFalls_ok {l : Launch} {G : Gm} (D : Nat) (hD : 6 ≤ D) : enOK l G D 231 en_X12_blownFalls := by
  intro ρ av x k r h
  unfold en_X12_blownFalls at h
  split at h
  · obtain ⟨g0, h⟩ := gd_some h
    obtain ⟨q, h1, h2⟩ := bind_of h
    have e0 := beq1 g0
    subst e0
    obtain ⟨D', rfl⟩ : ∃ D', D = D' + 1 := ⟨D - 1, by omega⟩
    exact ⟨_, _, h2, run_X12_blownFalls  _ _ _ _ h1 D' (by omega)⟩
  · cases h

/-! HatRankModel plainLands -/
noncomputable def tb_X12_plainLands (cal : Cal SS) : List (Nat × Ins SS) := [(0, e_aload 0 1), (1, e_iconst (11) 3), (3, e_callV opsS cal 223 1 12 6), (6, e_iload 2 7), (7, e_iload 1 8), (8, e_bin aXor 9), (9, e_iret)]
set_option maxRecDepth 100000 in
set_option maxHeartbeats 4000000 in
theorem tk_X12_plainLands {ad0 : Nat → Nat} {G : Gm} {A : Nat → Prop} {p : Program} {l : Launch} {e : Env} {R : Room} {s0 : State} {m : MethodId} {args : Array Value} {below : List Frame} {meth : Method} {c : Code} {Q : State → Prop} {ρ : Type} {ret : Option Value → SS → Option ρ} {r : ρ} (X : Cx G A RX12 cX12_plainLands 3 p s0 m args c) {D' : Nat} {cal : Cal SS} (hcal : calOK l G opsS D' cal) (hRm : ∀ k, k ≤ 21 → D' + 1 ≤ R.frames ∧ 8 + (k + 11) + 40 * D' ≤ R.locals) (hret : RetK G A cX12_plainLands 113 6344 ad0 p l e R s0 m args below meth c Q opsS ret r .ireturn okI) : ∀ q ∈ tb_X12_plainLands cal, OKi G A 3 113 6344 ad0 p l e R s0 m args below meth c Q opsS ret r q.1 q.2 :=
    okc (ok_aload_n (j := 0) X (by decide +kernel) rfl rfl) (
    okc (ok_bipush (n := 11) X (by decide +kernel) rfl rfl) (
    okc (ok_callV (ci := 12) (C := RX12) (T := TX12) (N := 63) (Y := (yX12_ran, cX12_ran, 2, none)) X hcal opsS_n md_X12_ran rfl (by decide) rfl wc_X12_ran wl_X12_379 wi_X12 wm_X12_ran wv_X12_ran (by decide +kernel) (hRm 2 (by decide)) (by decide +kernel) rfl) (
    okc (ok_iload_n (j := 2) X (by decide +kernel) rfl rfl) (
    okc (ok_iload_n (j := 1) X (by decide +kernel) rfl rfl) (
    okc (ok_ixor X (by decide +kernel) rfl) (
    okc (ok_iret hret (by decide +kernel)) (
    okn)))))))
noncomputable def es_X12_plainLands  : List (Nat × En) := [(223, en_X12_ran)]
set_option maxRecDepth 100000 in
set_option maxHeartbeats 4000000 in
theorem eq_X12_plainLands   (a0 : Int32) (a1 : Int32) (s : SS) : ex (tb_X12_plainLands (calE (es_X12_plainLands))) rI [] (fun _ _ _ _ => none) 9 0 [some (.ref 74), some (.int a0), some (.int a1)] [] s = f_X12_plainLands a0 a1 s := by
  rfl
set_option maxRecDepth 100000 in
set_option maxHeartbeats 4000000 in
theorem run_X12_plainLands {l : Launch} {G : Gm}   (a0 : Int32) (a1 : Int32) (s : SS) (q : (Int32 × SS)) (h : f_X12_plainLands a0 a1 s = some q) (D' : Nat) (hD : 1 ≤ D') : RunsM l G (D' + 1) (md 233) (embS s) [.ref 74, .int a0, .int a1] (some (.int q.1)) (embS q.2) := by
  rw [md_X12_plainLands]
  refine runs_I (plainFor_of_name (by decide +kernel)) (Nat.le_of_ble_eq_true rfl) rfl ?_
  intro A p e R s0 m args below meth c Q ad0 hR X hret
  have X : Cx G A RX12 cX12_plainLands 3 p s0 m args c := X
  have hT := tk_X12_plainLands X (calE_ok (es := es_X12_plainLands) (enc (en_X12_ran_ok _ (by omega)) (enn))) (rmD rfl hR) hret
  rw [← eq_X12_plainLands   a0 a1 s] at h
  refine ex_good hT (fun pc' ls' st' x' hh => ?_) 9 0 _ [] s h
  cases hh

noncomputable def en_X12_plainLands  : En := fun _ av s k => match av with
  | [.ref r0, .int a0, .int a1] => (gd (Nat.beq r0 74) (bI (f_X12_plainLands a0 a1 s) k))
  | _ => none
set_option maxRecDepth 100000 in
set_option maxHeartbeats 4000000 in
theorem en_X12_plainLands_ok {l : Launch} {G : Gm} (D : Nat) (hD : 2 ≤ D) : enOK l G D 233 en_X12_plainLands := by
  intro ρ av x k r h
  unfold en_X12_plainLands at h
  split at h
  · obtain ⟨g0, h⟩ := gd_some h
    obtain ⟨q, h1, h2⟩ := bind_of h
    have e0 := beq1 g0
    subst e0
    obtain ⟨D', rfl⟩ : ∃ D', D = D' + 1 := ⟨D - 1, by omega⟩
    exact ⟨_, _, h2, run_X12_plainLands  _ _ _ _ h1 D' (by omega)⟩
  · cases h

/-! HatRankModel caughtLands -/
noncomputable def tb_X12_caughtLands (cal : Cal SS) : List (Nat × Ins SS) := [(0, e_aload 0 1), (1, e_iconst (40) 3), (3, e_callV opsS cal 223 1 12 6), (6, e_aload 0 7), (7, e_iload 1 8), (8, e_iload 2 9), (9, e_callV opsS cal 233 2 12 12), (12, e_iconst (3) 13), (13, e_bin aMul 14), (14, e_iret)]
set_option maxRecDepth 100000 in
set_option maxHeartbeats 4000000 in
theorem tk_X12_caughtLands {ad0 : Nat → Nat} {G : Gm} {A : Nat → Prop} {p : Program} {l : Launch} {e : Env} {R : Room} {s0 : State} {m : MethodId} {args : Array Value} {below : List Frame} {meth : Method} {c : Code} {Q : State → Prop} {ρ : Type} {ret : Option Value → SS → Option ρ} {r : ρ} (X : Cx G A RX12 cX12_caughtLands 3 p s0 m args c) {D' : Nat} {cal : Cal SS} (hcal : calOK l G opsS D' cal) (hRm : ∀ k, k ≤ 21 → D' + 1 ≤ R.frames ∧ 8 + (k + 11) + 40 * D' ≤ R.locals) (hret : RetK G A cX12_caughtLands 113 6344 ad0 p l e R s0 m args below meth c Q opsS ret r .ireturn okI) : ∀ q ∈ tb_X12_caughtLands cal, OKi G A 3 113 6344 ad0 p l e R s0 m args below meth c Q opsS ret r q.1 q.2 :=
    okc (ok_aload_n (j := 0) X (by decide +kernel) rfl rfl) (
    okc (ok_bipush (n := 40) X (by decide +kernel) rfl rfl) (
    okc (ok_callV (ci := 12) (C := RX12) (T := TX12) (N := 63) (Y := (yX12_ran, cX12_ran, 2, none)) X hcal opsS_n md_X12_ran rfl (by decide) rfl wc_X12_ran wl_X12_379 wi_X12 wm_X12_ran wv_X12_ran (by decide +kernel) (hRm 2 (by decide)) (by decide +kernel) rfl) (
    okc (ok_aload_n (j := 0) X (by decide +kernel) rfl rfl) (
    okc (ok_iload_n (j := 1) X (by decide +kernel) rfl rfl) (
    okc (ok_iload_n (j := 2) X (by decide +kernel) rfl rfl) (
    okc (ok_callV (ci := 12) (C := RX12) (T := TX12) (N := 63) (Y := (yX12_plainLands, cX12_plainLands, 3, (some .int))) X hcal opsS_n md_X12_plainLands rfl (by decide) rfl wc_X12_plainLands wl_X12_403 wi_X12 wm_X12_plainLands wv_X12_plainLands (by decide +kernel) (hRm 3 (by decide)) (by decide +kernel) rfl) (
    okc (ok_iconst (n := 3) X (by decide +kernel) rfl rfl) (
    okc (ok_imul X (by decide +kernel) rfl) (
    okc (ok_iret hret (by decide +kernel)) (
    okn))))))))))
noncomputable def es_X12_caughtLands  : List (Nat × En) := [(223, en_X12_ran), (233, en_X12_plainLands)]
set_option maxRecDepth 100000 in
set_option maxHeartbeats 4000000 in
theorem eq_X12_caughtLands   (a0 : Int32) (a1 : Int32) (s : SS) : ex (tb_X12_caughtLands (calE (es_X12_caughtLands))) rI [] (fun _ _ _ _ => none) 12 0 [some (.ref 74), some (.int a0), some (.int a1)] [] s = f_X12_caughtLands a0 a1 s := by
  rfl
set_option maxRecDepth 100000 in
set_option maxHeartbeats 4000000 in
theorem run_X12_caughtLands {l : Launch} {G : Gm}   (a0 : Int32) (a1 : Int32) (s : SS) (q : (Int32 × SS)) (h : f_X12_caughtLands a0 a1 s = some q) (D' : Nat) (hD : 2 ≤ D') : RunsM l G (D' + 1) (md 234) (embS s) [.ref 74, .int a0, .int a1] (some (.int q.1)) (embS q.2) := by
  rw [md_X12_caughtLands]
  refine runs_I (plainFor_of_name (by decide +kernel)) (Nat.le_of_ble_eq_true rfl) rfl ?_
  intro A p e R s0 m args below meth c Q ad0 hR X hret
  have X : Cx G A RX12 cX12_caughtLands 3 p s0 m args c := X
  have hT := tk_X12_caughtLands X (calE_ok (es := es_X12_caughtLands) (enc (en_X12_ran_ok _ (by omega)) (enc (en_X12_plainLands_ok _ (by omega)) (enn)))) (rmD rfl hR) hret
  rw [← eq_X12_caughtLands   a0 a1 s] at h
  refine ex_good hT (fun pc' ls' st' x' hh => ?_) 12 0 _ [] s h
  cases hh

noncomputable def en_X12_caughtLands  : En := fun _ av s k => match av with
  | [.ref r0, .int a0, .int a1] => (gd (Nat.beq r0 74) (bI (f_X12_caughtLands a0 a1 s) k))
  | _ => none
set_option maxRecDepth 100000 in
set_option maxHeartbeats 4000000 in
theorem en_X12_caughtLands_ok {l : Launch} {G : Gm} (D : Nat) (hD : 3 ≤ D) : enOK l G D 234 en_X12_caughtLands := by
  intro ρ av x k r h
  unfold en_X12_caughtLands at h
  split at h
  · obtain ⟨g0, h⟩ := gd_some h
    obtain ⟨q, h1, h2⟩ := bind_of h
    have e0 := beq1 g0
    subst e0
    obtain ⟨D', rfl⟩ : ∃ D', D = D' + 1 := ⟨D - 1, by omega⟩
    exact ⟨_, _, h2, run_X12_caughtLands  _ _ _ _ h1 D' (by omega)⟩
  · cases h

/-! HatRankModel landing -/
noncomputable def tb_X12_landing (cal : Cal SS) : List (Nat × Ins SS) := [(0, e_aload 0 1), (1, e_getR opsS 12 56 4), (4, e_iload 1 5), (5, e_ald opsS 100 6), (6, e_iconst (5) 7), (7, e_cne 32 10), (10, e_aload 0 11), (11, e_iconst (60) 13), (13, e_callV opsS cal 223 1 12 16), (16, e_aload 0 17), (17, e_iload 1 18), (18, e_iload 2 19), (19, e_callV opsS cal 234 2 12 22), (22, e_istore 3 23), (23, e_iload 3 24), (24, e_aload 0 25), (25, e_iload 1 26), (26, e_iconst (2) 27), (27, e_callV opsS cal 229 2 12 30), (30, e_bin aSub 31), (31, e_iret), (32, e_aload 0 33), (33, e_getR opsS 12 56 36), (36, e_iload 1 37), (37, e_ald opsS 100 38), (38, e_iconst (3) 39), (39, e_cne 51 42), (42, e_aload 0 43), (43, e_iload 1 44), (44, e_iload 2 45), (45, e_callV opsS cal 234 2 12 48), (48, e_goto 57), (51, e_aload 0 52), (52, e_iload 1 53), (53, e_iload 2 54), (54, e_callV opsS cal 233 2 12 57), (57, e_iret)]
set_option maxRecDepth 100000 in
set_option maxHeartbeats 4000000 in
theorem tk_X12_landing {ad0 : Nat → Nat} {G : Gm} {A : Nat → Prop} {p : Program} {l : Launch} {e : Env} {R : Room} {s0 : State} {m : MethodId} {args : Array Value} {below : List Frame} {meth : Method} {c : Code} {Q : State → Prop} {ρ : Type} {ret : Option Value → SS → Option ρ} {r : ρ} (X : Cx G A RX12 cX12_landing 4 p s0 m args c) {D' : Nat} {cal : Cal SS} (hcal : calOK l G opsS D' cal) (hRm : ∀ k, k ≤ 21 → D' + 1 ≤ R.frames ∧ 8 + (k + 11) + 40 * D' ≤ R.locals) (hret : RetK G A cX12_landing 113 6344 ad0 p l e R s0 m args below meth c Q opsS ret r .ireturn okI) : ∀ q ∈ tb_X12_landing cal, OKi G A 4 113 6344 ad0 p l e R s0 m args below meth c Q opsS ret r q.1 q.2 :=
    okc (ok_aload_n (j := 0) X (by decide +kernel) rfl rfl) (
    okc (ok_getR (ci := 12) (kf := 56) (idx := 108) (C := RX12) (T := TX12) (N := 63) X rfl (by decide) inX12 (by decide) wf_X12_108 (fun _ _ _ => rfl) (by decide +kernel) rfl) (
    okc (ok_iload_n (j := 1) X (by decide +kernel) rfl rfl) (
    okc (ok_iald X (by decide +kernel) rfl) (
    okc (ok_iconst (n := 5) X (by decide +kernel) rfl rfl) (
    okc (ok_cne (off := 25) X (by decide +kernel) (by decide) rfl) (
    okc (ok_aload_n (j := 0) X (by decide +kernel) rfl rfl) (
    okc (ok_bipush (n := 60) X (by decide +kernel) rfl rfl) (
    okc (ok_callV (ci := 12) (C := RX12) (T := TX12) (N := 63) (Y := (yX12_ran, cX12_ran, 2, none)) X hcal opsS_n md_X12_ran rfl (by decide) rfl wc_X12_ran wl_X12_379 wi_X12 wm_X12_ran wv_X12_ran (by decide +kernel) (hRm 2 (by decide)) (by decide +kernel) rfl) (
    okc (ok_aload_n (j := 0) X (by decide +kernel) rfl rfl) (
    okc (ok_iload_n (j := 1) X (by decide +kernel) rfl rfl) (
    okc (ok_iload_n (j := 2) X (by decide +kernel) rfl rfl) (
    okc (ok_callV (ci := 12) (C := RX12) (T := TX12) (N := 63) (Y := (yX12_caughtLands, cX12_caughtLands, 3, (some .int))) X hcal opsS_n md_X12_caughtLands rfl (by decide) rfl wc_X12_caughtLands wl_X12_406 wi_X12 wm_X12_caughtLands wv_X12_caughtLands (by decide +kernel) (hRm 3 (by decide)) (by decide +kernel) rfl) (
    okc (ok_istore_n (j := 3) X (by decide +kernel) rfl rfl) (
    okc (ok_iload_n (j := 3) X (by decide +kernel) rfl rfl) (
    okc (ok_aload_n (j := 0) X (by decide +kernel) rfl rfl) (
    okc (ok_iload_n (j := 1) X (by decide +kernel) rfl rfl) (
    okc (ok_iconst (n := 2) X (by decide +kernel) rfl rfl) (
    okc (ok_callV (ci := 12) (C := RX12) (T := TX12) (N := 63) (Y := (yX12_sitting, cX12_sitting, 3, (some .int))) X hcal opsS_n md_X12_sitting rfl (by decide) rfl wc_X12_sitting wl_X12_391 wi_X12 wm_X12_sitting wv_X12_sitting (by decide +kernel) (hRm 3 (by decide)) (by decide +kernel) rfl) (
    okc (ok_isub X (by decide +kernel) rfl) (
    okc (ok_iret hret (by decide +kernel)) (
    okc (ok_aload_n (j := 0) X (by decide +kernel) rfl rfl) (
    okc (ok_getR (ci := 12) (kf := 56) (idx := 108) (C := RX12) (T := TX12) (N := 63) X rfl (by decide) inX12 (by decide) wf_X12_108 (fun _ _ _ => rfl) (by decide +kernel) rfl) (
    okc (ok_iload_n (j := 1) X (by decide +kernel) rfl rfl) (
    okc (ok_iald X (by decide +kernel) rfl) (
    okc (ok_iconst (n := 3) X (by decide +kernel) rfl rfl) (
    okc (ok_cne (off := 12) X (by decide +kernel) (by decide) rfl) (
    okc (ok_aload_n (j := 0) X (by decide +kernel) rfl rfl) (
    okc (ok_iload_n (j := 1) X (by decide +kernel) rfl rfl) (
    okc (ok_iload_n (j := 2) X (by decide +kernel) rfl rfl) (
    okc (ok_callV (ci := 12) (C := RX12) (T := TX12) (N := 63) (Y := (yX12_caughtLands, cX12_caughtLands, 3, (some .int))) X hcal opsS_n md_X12_caughtLands rfl (by decide) rfl wc_X12_caughtLands wl_X12_406 wi_X12 wm_X12_caughtLands wv_X12_caughtLands (by decide +kernel) (hRm 3 (by decide)) (by decide +kernel) rfl) (
    okc (ok_goto (off := 9) X (by decide +kernel) (by decide)) (
    okc (ok_aload_n (j := 0) X (by decide +kernel) rfl rfl) (
    okc (ok_iload_n (j := 1) X (by decide +kernel) rfl rfl) (
    okc (ok_iload_n (j := 2) X (by decide +kernel) rfl rfl) (
    okc (ok_callV (ci := 12) (C := RX12) (T := TX12) (N := 63) (Y := (yX12_plainLands, cX12_plainLands, 3, (some .int))) X hcal opsS_n md_X12_plainLands rfl (by decide) rfl wc_X12_plainLands wl_X12_403 wi_X12 wm_X12_plainLands wv_X12_plainLands (by decide +kernel) (hRm 3 (by decide)) (by decide +kernel) rfl) (
    okc (ok_iret hret (by decide +kernel)) (
    okn)))))))))))))))))))))))))))))))))))))
noncomputable def es_X12_landing  : List (Nat × En) := [(223, en_X12_ran), (234, en_X12_caughtLands), (229, en_X12_sitting), (233, en_X12_plainLands)]
set_option maxRecDepth 100000 in
set_option maxHeartbeats 4000000 in
theorem eq_X12_landing   (a0 : Int32) (a1 : Int32) (s : SS) : ex (tb_X12_landing (calE (es_X12_landing))) rI [] (fun _ _ _ _ => none) 39 0 [some (.ref 74), some (.int a0), some (.int a1), none] [] s = f_X12_landing a0 a1 s := by
  rfl
set_option maxRecDepth 100000 in
set_option maxHeartbeats 4000000 in
theorem run_X12_landing {l : Launch} {G : Gm}   (a0 : Int32) (a1 : Int32) (s : SS) (q : (Int32 × SS)) (h : f_X12_landing a0 a1 s = some q) (D' : Nat) (hD : 4 ≤ D') : RunsM l G (D' + 1) (md 235) (embS s) [.ref 74, .int a0, .int a1] (some (.int q.1)) (embS q.2) := by
  rw [md_X12_landing]
  refine runs_I (plainFor_of_name (by decide +kernel)) (Nat.le_of_ble_eq_true rfl) rfl ?_
  intro A p e R s0 m args below meth c Q ad0 hR X hret
  have X : Cx G A RX12 cX12_landing 4 p s0 m args c := X
  have hT := tk_X12_landing X (calE_ok (es := es_X12_landing) (enc (en_X12_ran_ok _ (by omega)) (enc (en_X12_caughtLands_ok _ (by omega)) (enc (en_X12_sitting_ok _ (by omega)) (enc (en_X12_plainLands_ok _ (by omega)) (enn)))))) (rmD rfl hR) hret
  rw [← eq_X12_landing   a0 a1 s] at h
  refine ex_good hT (fun pc' ls' st' x' hh => ?_) 39 0 _ [] s h
  cases hh

noncomputable def en_X12_landing  : En := fun _ av s k => match av with
  | [.ref r0, .int a0, .int a1] => (gd (Nat.beq r0 74) (bI (f_X12_landing a0 a1 s) k))
  | _ => none
set_option maxRecDepth 100000 in
set_option maxHeartbeats 4000000 in
theorem en_X12_landing_ok {l : Launch} {G : Gm} (D : Nat) (hD : 5 ≤ D) : enOK l G D 235 en_X12_landing := by
  intro ρ av x k r h
  unfold en_X12_landing at h
  split at h
  · obtain ⟨g0, h⟩ := gd_some h
    obtain ⟨q, h1, h2⟩ := bind_of h
    have e0 := beq1 g0
    subst e0
    obtain ⟨D', rfl⟩ : ∃ D', D = D' + 1 := ⟨D - 1, by omega⟩
    exact ⟨_, _, h2, run_X12_landing  _ _ _ _ h1 D' (by omega)⟩
  · cases h

/-! HatRankModel falling -/
noncomputable def tb_X12_falling (cal : Cal SS) : List (Nat × Ins SS) := [(0, e_aload 0 1), (1, e_getR opsS 12 56 4), (4, e_iload 1 5), (5, e_ald opsS 100 6), (6, e_iconst (3) 7), (7, e_callS cal 226 2 10), (10, e_ifeq 28 13), (13, e_aload 0 14), (14, e_iconst (41) 16), (16, e_callV opsS cal 223 1 12 19), (19, e_aload 0 20), (20, e_iload 1 21), (21, e_iload 2 22), (22, e_iconst (1) 23), (23, e_bin aAdd 24), (24, e_callV opsS cal 231 2 12 27), (27, e_iret), (28, e_aload 0 29), (29, e_getR opsS 12 56 32), (32, e_iload 1 33), (33, e_ald opsS 100 34), (34, e_iconst (7) 36), (36, e_cne 61 39), (39, e_aload 0 40), (40, e_iconst (80) 42), (42, e_callV opsS cal 223 1 12 45), (45, e_aload 0 46), (46, e_iload 1 47), (47, e_iload 2 48), (48, e_callV opsS cal 230 2 12 51), (51, e_istore 3 52), (52, e_iload 3 53), (53, e_aload 0 54), (54, e_iload 1 55), (55, e_iconst (2) 56), (56, e_callV opsS cal 235 2 12 59), (59, e_bin aAdd 60), (60, e_iret), (61, e_aload 0 62), (62, e_getR opsS 12 56 65), (65, e_iload 1 66), (66, e_ald opsS 100 67), (67, e_iconst (2) 68), (68, e_cne 80 71), (71, e_aload 0 72), (72, e_iload 1 73), (73, e_iload 2 74), (74, e_callV opsS cal 231 2 12 77), (77, e_goto 86), (80, e_aload 0 81), (81, e_iload 1 82), (82, e_iload 2 83), (83, e_callV opsS cal 230 2 12 86), (86, e_iret)]
set_option maxRecDepth 100000 in
set_option maxHeartbeats 4000000 in
theorem tk_X12_falling {ad0 : Nat → Nat} {G : Gm} {A : Nat → Prop} {p : Program} {l : Launch} {e : Env} {R : Room} {s0 : State} {m : MethodId} {args : Array Value} {below : List Frame} {meth : Method} {c : Code} {Q : State → Prop} {ρ : Type} {ret : Option Value → SS → Option ρ} {r : ρ} (X : Cx G A RX12 cX12_falling 4 p s0 m args c) {D' : Nat} {cal : Cal SS} (hcal : calOK l G opsS D' cal) (hRm : ∀ k, k ≤ 21 → D' + 1 ≤ R.frames ∧ 8 + (k + 11) + 40 * D' ≤ R.locals) (hret : RetK G A cX12_falling 113 6344 ad0 p l e R s0 m args below meth c Q opsS ret r .ireturn okI) : ∀ q ∈ tb_X12_falling cal, OKi G A 4 113 6344 ad0 p l e R s0 m args below meth c Q opsS ret r q.1 q.2 :=
    okc (ok_aload_n (j := 0) X (by decide +kernel) rfl rfl) (
    okc (ok_getR (ci := 12) (kf := 56) (idx := 108) (C := RX12) (T := TX12) (N := 63) X rfl (by decide) inX12 (by decide) wf_X12_108 (fun _ _ _ => rfl) (by decide +kernel) rfl) (
    okc (ok_iload_n (j := 1) X (by decide +kernel) rfl rfl) (
    okc (ok_iald X (by decide +kernel) rfl) (
    okc (ok_iconst (n := 3) X (by decide +kernel) rfl rfl) (
    okc (ok_callS (Y := (yX12_isUnder, cX12_isUnder, 2, (some .boolean))) X hcal opsS_n md_X12_isUnder wc_X12_isUnder wl_X12_385 wi_X12 ws_X12_isUnder (by decide +kernel) (hRm 2 (by decide)) (by decide +kernel) rfl) (
    okc (ok_ifeq (off := 18) X (by decide +kernel) (by decide) rfl) (
    okc (ok_aload_n (j := 0) X (by decide +kernel) rfl rfl) (
    okc (ok_bipush (n := 41) X (by decide +kernel) rfl rfl) (
    okc (ok_callV (ci := 12) (C := RX12) (T := TX12) (N := 63) (Y := (yX12_ran, cX12_ran, 2, none)) X hcal opsS_n md_X12_ran rfl (by decide) rfl wc_X12_ran wl_X12_379 wi_X12 wm_X12_ran wv_X12_ran (by decide +kernel) (hRm 2 (by decide)) (by decide +kernel) rfl) (
    okc (ok_aload_n (j := 0) X (by decide +kernel) rfl rfl) (
    okc (ok_iload_n (j := 1) X (by decide +kernel) rfl rfl) (
    okc (ok_iload_n (j := 2) X (by decide +kernel) rfl rfl) (
    okc (ok_iconst (n := 1) X (by decide +kernel) rfl rfl) (
    okc (ok_iadd X (by decide +kernel) rfl) (
    okc (ok_callV (ci := 12) (C := RX12) (T := TX12) (N := 63) (Y := (yX12_blownFalls, cX12_blownFalls, 3, (some .int))) X hcal opsS_n md_X12_blownFalls rfl (by decide) rfl wc_X12_blownFalls wl_X12_397 wi_X12 wm_X12_blownFalls wv_X12_blownFalls (by decide +kernel) (hRm 3 (by decide)) (by decide +kernel) rfl) (
    okc (ok_iret hret (by decide +kernel)) (
    okc (ok_aload_n (j := 0) X (by decide +kernel) rfl rfl) (
    okc (ok_getR (ci := 12) (kf := 56) (idx := 108) (C := RX12) (T := TX12) (N := 63) X rfl (by decide) inX12 (by decide) wf_X12_108 (fun _ _ _ => rfl) (by decide +kernel) rfl) (
    okc (ok_iload_n (j := 1) X (by decide +kernel) rfl rfl) (
    okc (ok_iald X (by decide +kernel) rfl) (
    okc (ok_bipush (n := 7) X (by decide +kernel) rfl rfl) (
    okc (ok_cne (off := 25) X (by decide +kernel) (by decide) rfl) (
    okc (ok_aload_n (j := 0) X (by decide +kernel) rfl rfl) (
    okc (ok_bipush (n := 80) X (by decide +kernel) rfl rfl) (
    okc (ok_callV (ci := 12) (C := RX12) (T := TX12) (N := 63) (Y := (yX12_ran, cX12_ran, 2, none)) X hcal opsS_n md_X12_ran rfl (by decide) rfl wc_X12_ran wl_X12_379 wi_X12 wm_X12_ran wv_X12_ran (by decide +kernel) (hRm 2 (by decide)) (by decide +kernel) rfl) (
    okc (ok_aload_n (j := 0) X (by decide +kernel) rfl rfl) (
    okc (ok_iload_n (j := 1) X (by decide +kernel) rfl rfl) (
    okc (ok_iload_n (j := 2) X (by decide +kernel) rfl rfl) (
    okc (ok_callV (ci := 12) (C := RX12) (T := TX12) (N := 63) (Y := (yX12_plainFalls, cX12_plainFalls, 3, (some .int))) X hcal opsS_n md_X12_plainFalls rfl (by decide) rfl wc_X12_plainFalls wl_X12_394 wi_X12 wm_X12_plainFalls wv_X12_plainFalls (by decide +kernel) (hRm 3 (by decide)) (by decide +kernel) rfl) (
    okc (ok_istore_n (j := 3) X (by decide +kernel) rfl rfl) (
    okc (ok_iload_n (j := 3) X (by decide +kernel) rfl rfl) (
    okc (ok_aload_n (j := 0) X (by decide +kernel) rfl rfl) (
    okc (ok_iload_n (j := 1) X (by decide +kernel) rfl rfl) (
    okc (ok_iconst (n := 2) X (by decide +kernel) rfl rfl) (
    okc (ok_callV (ci := 12) (C := RX12) (T := TX12) (N := 63) (Y := (yX12_landing, cX12_landing, 4, (some .int))) X hcal opsS_n md_X12_landing rfl (by decide) rfl wc_X12_landing wl_X12_400 wi_X12 wm_X12_landing wv_X12_landing (by decide +kernel) (hRm 4 (by decide)) (by decide +kernel) rfl) (
    okc (ok_iadd X (by decide +kernel) rfl) (
    okc (ok_iret hret (by decide +kernel)) (
    okc (ok_aload_n (j := 0) X (by decide +kernel) rfl rfl) (
    okc (ok_getR (ci := 12) (kf := 56) (idx := 108) (C := RX12) (T := TX12) (N := 63) X rfl (by decide) inX12 (by decide) wf_X12_108 (fun _ _ _ => rfl) (by decide +kernel) rfl) (
    okc (ok_iload_n (j := 1) X (by decide +kernel) rfl rfl) (
    okc (ok_iald X (by decide +kernel) rfl) (
    okc (ok_iconst (n := 2) X (by decide +kernel) rfl rfl) (
    okc (ok_cne (off := 12) X (by decide +kernel) (by decide) rfl) (
    okc (ok_aload_n (j := 0) X (by decide +kernel) rfl rfl) (
    okc (ok_iload_n (j := 1) X (by decide +kernel) rfl rfl) (
    okc (ok_iload_n (j := 2) X (by decide +kernel) rfl rfl) (
    okc (ok_callV (ci := 12) (C := RX12) (T := TX12) (N := 63) (Y := (yX12_blownFalls, cX12_blownFalls, 3, (some .int))) X hcal opsS_n md_X12_blownFalls rfl (by decide) rfl wc_X12_blownFalls wl_X12_397 wi_X12 wm_X12_blownFalls wv_X12_blownFalls (by decide +kernel) (hRm 3 (by decide)) (by decide +kernel) rfl) (
    okc (ok_goto (off := 9) X (by decide +kernel) (by decide)) (
    okc (ok_aload_n (j := 0) X (by decide +kernel) rfl rfl) (
    okc (ok_iload_n (j := 1) X (by decide +kernel) rfl rfl) (
    okc (ok_iload_n (j := 2) X (by decide +kernel) rfl rfl) (
    okc (ok_callV (ci := 12) (C := RX12) (T := TX12) (N := 63) (Y := (yX12_plainFalls, cX12_plainFalls, 3, (some .int))) X hcal opsS_n md_X12_plainFalls rfl (by decide) rfl wc_X12_plainFalls wl_X12_394 wi_X12 wm_X12_plainFalls wv_X12_plainFalls (by decide +kernel) (hRm 3 (by decide)) (by decide +kernel) rfl) (
    okc (ok_iret hret (by decide +kernel)) (
    okn))))))))))))))))))))))))))))))))))))))))))))))))))))))
noncomputable def es_X12_falling  : List (Nat × En) := [(226, en_X12_isUnder), (223, en_X12_ran), (231, en_X12_blownFalls), (230, en_X12_plainFalls), (235, en_X12_landing)]
set_option maxRecDepth 100000 in
set_option maxHeartbeats 4000000 in
theorem eq_X12_falling   (a0 : Int32) (a1 : Int32) (s : SS) : ex (tb_X12_falling (calE (es_X12_falling))) rI [] (fun _ _ _ _ => none) 56 0 [some (.ref 74), some (.int a0), some (.int a1), none] [] s = f_X12_falling a0 a1 s := by
  rfl
set_option maxRecDepth 100000 in
set_option maxHeartbeats 4000000 in
theorem run_X12_falling {l : Launch} {G : Gm}   (a0 : Int32) (a1 : Int32) (s : SS) (q : (Int32 × SS)) (h : f_X12_falling a0 a1 s = some q) (D' : Nat) (hD : 6 ≤ D') : RunsM l G (D' + 1) (md 232) (embS s) [.ref 74, .int a0, .int a1] (some (.int q.1)) (embS q.2) := by
  rw [md_X12_falling]
  refine runs_I (plainFor_of_name (by decide +kernel)) (Nat.le_of_ble_eq_true rfl) rfl ?_
  intro A p e R s0 m args below meth c Q ad0 hR X hret
  have X : Cx G A RX12 cX12_falling 4 p s0 m args c := X
  have hT := tk_X12_falling X (calE_ok (es := es_X12_falling) (enc (en_X12_isUnder_ok _ (by omega)) (enc (en_X12_ran_ok _ (by omega)) (enc (en_X12_blownFalls_ok _ (by omega)) (enc (en_X12_plainFalls_ok _ (by omega)) (enc (en_X12_landing_ok _ (by omega)) (enn))))))) (rmD rfl hR) hret
  rw [← eq_X12_falling   a0 a1 s] at h
  refine ex_good hT (fun pc' ls' st' x' hh => ?_) 56 0 _ [] s h
  cases hh

noncomputable def en_X12_falling  : En := fun _ av s k => match av with
  | [.ref r0, .int a0, .int a1] => (gd (Nat.beq r0 74) (bI (f_X12_falling a0 a1 s) k))
  | _ => none
set_option maxRecDepth 100000 in
set_option maxHeartbeats 4000000 in
theorem en_X12_falling_ok {l : Launch} {G : Gm} (D : Nat) (hD : 7 ≤ D) : enOK l G D 232 en_X12_falling := by
  intro ρ av x k r h
  unfold en_X12_falling at h
  split at h
  · obtain ⟨g0, h⟩ := gd_some h
    obtain ⟨q, h1, h2⟩ := bind_of h
    have e0 := beq1 g0
    subst e0
    obtain ⟨D', rfl⟩ : ∃ D', D = D' + 1 := ⟨D - 1, by omega⟩
    exact ⟨_, _, h2, run_X12_falling  _ _ _ _ h1 D' (by omega)⟩
  · cases h

/-! HatRankModel plainRanks -/
noncomputable def tb_X12_plainRanks (cal : Cal SS) : List (Nat × Ins SS) := [(0, e_aload 0 1), (1, e_iconst (2) 2), (2, e_callV opsS cal 223 1 12 5), (5, e_aload 0 6), (6, e_iload 1 7), (7, e_iload 2 8), (8, e_callV opsS cal 232 2 12 11), (11, e_istore 3 12), (12, e_iload 3 13), (13, e_aload 0 14), (14, e_iload 1 15), (15, e_iconst (1) 16), (16, e_callV opsS cal 235 2 12 19), (19, e_bin aSub 20), (20, e_iret)]
set_option maxRecDepth 100000 in
set_option maxHeartbeats 4000000 in
theorem tk_X12_plainRanks {ad0 : Nat → Nat} {G : Gm} {A : Nat → Prop} {p : Program} {l : Launch} {e : Env} {R : Room} {s0 : State} {m : MethodId} {args : Array Value} {below : List Frame} {meth : Method} {c : Code} {Q : State → Prop} {ρ : Type} {ret : Option Value → SS → Option ρ} {r : ρ} (X : Cx G A RX12 cX12_plainRanks 4 p s0 m args c) {D' : Nat} {cal : Cal SS} (hcal : calOK l G opsS D' cal) (hRm : ∀ k, k ≤ 21 → D' + 1 ≤ R.frames ∧ 8 + (k + 11) + 40 * D' ≤ R.locals) (hret : RetK G A cX12_plainRanks 113 6344 ad0 p l e R s0 m args below meth c Q opsS ret r .ireturn okI) : ∀ q ∈ tb_X12_plainRanks cal, OKi G A 4 113 6344 ad0 p l e R s0 m args below meth c Q opsS ret r q.1 q.2 :=
    okc (ok_aload_n (j := 0) X (by decide +kernel) rfl rfl) (
    okc (ok_iconst (n := 2) X (by decide +kernel) rfl rfl) (
    okc (ok_callV (ci := 12) (C := RX12) (T := TX12) (N := 63) (Y := (yX12_ran, cX12_ran, 2, none)) X hcal opsS_n md_X12_ran rfl (by decide) rfl wc_X12_ran wl_X12_379 wi_X12 wm_X12_ran wv_X12_ran (by decide +kernel) (hRm 2 (by decide)) (by decide +kernel) rfl) (
    okc (ok_aload_n (j := 0) X (by decide +kernel) rfl rfl) (
    okc (ok_iload_n (j := 1) X (by decide +kernel) rfl rfl) (
    okc (ok_iload_n (j := 2) X (by decide +kernel) rfl rfl) (
    okc (ok_callV (ci := 12) (C := RX12) (T := TX12) (N := 63) (Y := (yX12_falling, cX12_falling, 4, (some .int))) X hcal opsS_n md_X12_falling rfl (by decide) rfl wc_X12_falling wl_X12_409 wi_X12 wm_X12_falling wv_X12_falling (by decide +kernel) (hRm 4 (by decide)) (by decide +kernel) rfl) (
    okc (ok_istore_n (j := 3) X (by decide +kernel) rfl rfl) (
    okc (ok_iload_n (j := 3) X (by decide +kernel) rfl rfl) (
    okc (ok_aload_n (j := 0) X (by decide +kernel) rfl rfl) (
    okc (ok_iload_n (j := 1) X (by decide +kernel) rfl rfl) (
    okc (ok_iconst (n := 1) X (by decide +kernel) rfl rfl) (
    okc (ok_callV (ci := 12) (C := RX12) (T := TX12) (N := 63) (Y := (yX12_landing, cX12_landing, 4, (some .int))) X hcal opsS_n md_X12_landing rfl (by decide) rfl wc_X12_landing wl_X12_400 wi_X12 wm_X12_landing wv_X12_landing (by decide +kernel) (hRm 4 (by decide)) (by decide +kernel) rfl) (
    okc (ok_isub X (by decide +kernel) rfl) (
    okc (ok_iret hret (by decide +kernel)) (
    okn)))))))))))))))
noncomputable def es_X12_plainRanks  : List (Nat × En) := [(223, en_X12_ran), (232, en_X12_falling), (235, en_X12_landing)]
set_option maxRecDepth 100000 in
set_option maxHeartbeats 4000000 in
theorem eq_X12_plainRanks   (a0 : Int32) (a1 : Int32) (s : SS) : ex (tb_X12_plainRanks (calE (es_X12_plainRanks))) rI [] (fun _ _ _ _ => none) 17 0 [some (.ref 74), some (.int a0), some (.int a1), none] [] s = f_X12_plainRanks a0 a1 s := by
  rfl
set_option maxRecDepth 100000 in
set_option maxHeartbeats 4000000 in
theorem run_X12_plainRanks {l : Launch} {G : Gm}   (a0 : Int32) (a1 : Int32) (s : SS) (q : (Int32 × SS)) (h : f_X12_plainRanks a0 a1 s = some q) (D' : Nat) (hD : 7 ≤ D') : RunsM l G (D' + 1) (md 236) (embS s) [.ref 74, .int a0, .int a1] (some (.int q.1)) (embS q.2) := by
  rw [md_X12_plainRanks]
  refine runs_I (plainFor_of_name (by decide +kernel)) (Nat.le_of_ble_eq_true rfl) rfl ?_
  intro A p e R s0 m args below meth c Q ad0 hR X hret
  have X : Cx G A RX12 cX12_plainRanks 4 p s0 m args c := X
  have hT := tk_X12_plainRanks X (calE_ok (es := es_X12_plainRanks) (enc (en_X12_ran_ok _ (by omega)) (enc (en_X12_falling_ok _ (by omega)) (enc (en_X12_landing_ok _ (by omega)) (enn))))) (rmD rfl hR) hret
  rw [← eq_X12_plainRanks   a0 a1 s] at h
  refine ex_good hT (fun pc' ls' st' x' hh => ?_) 17 0 _ [] s h
  cases hh

noncomputable def en_X12_plainRanks  : En := fun _ av s k => match av with
  | [.ref r0, .int a0, .int a1] => (gd (Nat.beq r0 74) (bI (f_X12_plainRanks a0 a1 s) k))
  | _ => none
set_option maxRecDepth 100000 in
set_option maxHeartbeats 4000000 in
theorem en_X12_plainRanks_ok {l : Launch} {G : Gm} (D : Nat) (hD : 8 ≤ D) : enOK l G D 236 en_X12_plainRanks := by
  intro ρ av x k r h
  unfold en_X12_plainRanks at h
  split at h
  · obtain ⟨g0, h⟩ := gd_some h
    obtain ⟨q, h1, h2⟩ := bind_of h
    have e0 := beq1 g0
    subst e0
    obtain ⟨D', rfl⟩ : ∃ D', D = D' + 1 := ⟨D - 1, by omega⟩
    exact ⟨_, _, h2, run_X12_plainRanks  _ _ _ _ h1 D' (by omega)⟩
  · cases h

