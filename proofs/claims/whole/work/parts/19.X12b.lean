/-! HatRankModel line -/
noncomputable def tb_X12_line (cal : Cal SS) : List (Nat × Ins SS) := [(0, e_iconst (61) 2), (2, e_aload 0 3), (3, e_getR opsS 12 30 6), (6, e_iconst (1) 7), (7, e_ald opsS 100 8), (8, e_bin aAdd 9), (9, e_istore 1 10), (10, e_aload 0 11), (11, e_getR opsS 12 31 14), (14, e_iload 1 15), (15, e_aload 0 16), (16, e_getI opsS 12 27 19), (19, e_un aS 20), (20, e_ast opsS 103 aS 21), (21, e_aload 0 22), (22, e_callV opsS cal 177 0 12 25), (25, e_aload 0 26), (26, e_getI opsS 12 25 29), (29, e_ifge 66 32), (32, e_aload 0 33), (33, e_callV opsS cal 166 0 12 36), (36, e_iconst (63) 38), (38, e_cne 66 41), (41, e_aload 0 42), (42, e_dup 43), (43, e_getI opsS 12 24 46), (46, e_iconst (1) 47), (47, e_bin aAdd 48), (48, e_putI opsS 12 24 51), (51, e_aload 0 52), (52, e_getR opsS 12 31 55), (55, e_iload 1 56), (56, e_aload 0 57), (57, e_getI opsS 12 27 60), (60, e_un aS 61), (61, e_ast opsS 103 aS 62), (62, e_aload 0 63), (63, e_callV opsS cal 177 0 12 66), (66, e_aload 0 67), (67, e_getR opsS 12 32 70), (70, e_iload 1 71), (71, e_aload 0 72), (72, e_getI opsS 12 27 75), (75, e_un aS 76), (76, e_ast opsS 103 aS 77), (77, e_aload 0 78), (78, e_getR opsS 12 30 81), (81, e_iconst (1) 82), (82, e_dup2 83), (83, e_ald opsS 100 84), (84, e_iconst (1) 85), (85, e_bin aAdd 86), (86, e_ast opsS 100 (fun v => v) 87), (87, e_vret)]
set_option maxRecDepth 100000 in
set_option maxHeartbeats 4000000 in
theorem tk_X12_line {ad0 : Nat → Nat} {G : Gm} {A : Nat → Prop} {p : Program} {l : Launch} {e : Env} {R : Room} {s0 : State} {m : MethodId} {args : Array Value} {below : List Frame} {meth : Method} {c : Code} {Q : State → Prop} {ρ : Type} {ret : Option Value → SS → Option ρ} {r : ρ} (X : Cx G A RX12 cX12_line 2 p s0 m args c) {D' : Nat} {cal : Cal SS} (hcal : calOK l G opsS D' cal) (hRm : ∀ k, k ≤ 21 → D' + 1 ≤ R.frames ∧ 8 + (k + 11) + 40 * D' ≤ R.locals) (hret : RetK G A cX12_line 113 6344 ad0 p l e R s0 m args below meth c Q opsS ret r .return_ okV) : ∀ q ∈ tb_X12_line cal, OKi G A 2 113 6344 ad0 p l e R s0 m args below meth c Q opsS ret r q.1 q.2 :=
    okc (ok_bipush (n := 61) X (by decide +kernel) rfl rfl) (
    okc (ok_aload_n (j := 0) X (by decide +kernel) rfl rfl) (
    okc (ok_getR (ci := 12) (kf := 30) (idx := 62) (C := RX12) (T := TX12) (N := 63) X rfl (by decide) inX12 (by decide) wf_X12_62 (fun _ _ _ => rfl) (by decide +kernel) rfl) (
    okc (ok_iconst (n := 1) X (by decide +kernel) rfl rfl) (
    okc (ok_iald X (by decide +kernel) rfl) (
    okc (ok_iadd X (by decide +kernel) rfl) (
    okc (ok_istore_n (j := 1) X (by decide +kernel) rfl rfl) (
    okc (ok_aload_n (j := 0) X (by decide +kernel) rfl rfl) (
    okc (ok_getR (ci := 12) (kf := 31) (idx := 65) (C := RX12) (T := TX12) (N := 63) X rfl (by decide) inX12 (by decide) wf_X12_65 (fun _ _ _ => rfl) (by decide +kernel) rfl) (
    okc (ok_iload_n (j := 1) X (by decide +kernel) rfl rfl) (
    okc (ok_aload_n (j := 0) X (by decide +kernel) rfl rfl) (
    okc (ok_getI (ci := 12) (kf := 27) (idx := 193) (C := RX12) (T := TX12) (N := 63) X rfl (by decide) inX12 (by decide) wf_X12_193 (fun _ _ _ => rfl) (by decide +kernel) rfl) (
    okc (ok_i2s X (by decide +kernel) rfl) (
    okc (ok_sast X opsS_ok (by decide +kernel) rfl) (
    okc (ok_aload_n (j := 0) X (by decide +kernel) rfl rfl) (
    okc (ok_callV (ci := 12) (C := RX12) (T := TX12) (N := 63) (Y := (yX12_either, cX12_either, 1, none)) X hcal opsS_n md_X12_either rfl (by decide) rfl wc_X12_either wl_X12_221 wi_X12 wm_X12_either wv_X12_either (by decide +kernel) (hRm 1 (by decide)) (by decide +kernel) rfl) (
    okc (ok_aload_n (j := 0) X (by decide +kernel) rfl rfl) (
    okc (ok_getI (ci := 12) (kf := 25) (idx := 190) (C := RX12) (T := TX12) (N := 63) X rfl (by decide) inX12 (by decide) wf_X12_190 (fun _ _ _ => rfl) (by decide +kernel) rfl) (
    okc (ok_ifge (off := 37) X (by decide +kernel) (by decide) rfl) (
    okc (ok_aload_n (j := 0) X (by decide +kernel) rfl rfl) (
    okc (ok_callV (ci := 12) (C := RX12) (T := TX12) (N := 63) (Y := (yX12_look, cX12_look, 1, (some .int))) X hcal opsS_n md_X12_look rfl (by decide) rfl wc_X12_look wl_X12_202 wi_X12 wm_X12_look wv_X12_look (by decide +kernel) (hRm 1 (by decide)) (by decide +kernel) rfl) (
    okc (ok_bipush (n := 63) X (by decide +kernel) rfl rfl) (
    okc (ok_cne (off := 28) X (by decide +kernel) (by decide) rfl) (
    okc (ok_aload_n (j := 0) X (by decide +kernel) rfl rfl) (
    okc (ok_dup X (by decide +kernel) rfl) (
    okc (ok_getI (ci := 12) (kf := 24) (idx := 187) (C := RX12) (T := TX12) (N := 63) X rfl (by decide) inX12 (by decide) wf_X12_187 (fun _ _ _ => rfl) (by decide +kernel) rfl) (
    okc (ok_iconst (n := 1) X (by decide +kernel) rfl rfl) (
    okc (ok_iadd X (by decide +kernel) rfl) (
    okc (ok_putI (ci := 12) (kf := 24) (idx := 187) (C := RX12) (T := TX12) (N := 63) X opsS_ok rfl (by decide) inX12 tyX12_ok nmX12 (by decide) wf_X12_187 rfl (fun _ _ _ => rfl) (by decide +kernel) (by decide +kernel) rfl) (
    okc (ok_aload_n (j := 0) X (by decide +kernel) rfl rfl) (
    okc (ok_getR (ci := 12) (kf := 31) (idx := 65) (C := RX12) (T := TX12) (N := 63) X rfl (by decide) inX12 (by decide) wf_X12_65 (fun _ _ _ => rfl) (by decide +kernel) rfl) (
    okc (ok_iload_n (j := 1) X (by decide +kernel) rfl rfl) (
    okc (ok_aload_n (j := 0) X (by decide +kernel) rfl rfl) (
    okc (ok_getI (ci := 12) (kf := 27) (idx := 193) (C := RX12) (T := TX12) (N := 63) X rfl (by decide) inX12 (by decide) wf_X12_193 (fun _ _ _ => rfl) (by decide +kernel) rfl) (
    okc (ok_i2s X (by decide +kernel) rfl) (
    okc (ok_sast X opsS_ok (by decide +kernel) rfl) (
    okc (ok_aload_n (j := 0) X (by decide +kernel) rfl rfl) (
    okc (ok_callV (ci := 12) (C := RX12) (T := TX12) (N := 63) (Y := (yX12_either, cX12_either, 1, none)) X hcal opsS_n md_X12_either rfl (by decide) rfl wc_X12_either wl_X12_221 wi_X12 wm_X12_either wv_X12_either (by decide +kernel) (hRm 1 (by decide)) (by decide +kernel) rfl) (
    okc (ok_aload_n (j := 0) X (by decide +kernel) rfl rfl) (
    okc (ok_getR (ci := 12) (kf := 32) (idx := 69) (C := RX12) (T := TX12) (N := 63) X rfl (by decide) inX12 (by decide) wf_X12_69 (fun _ _ _ => rfl) (by decide +kernel) rfl) (
    okc (ok_iload_n (j := 1) X (by decide +kernel) rfl rfl) (
    okc (ok_aload_n (j := 0) X (by decide +kernel) rfl rfl) (
    okc (ok_getI (ci := 12) (kf := 27) (idx := 193) (C := RX12) (T := TX12) (N := 63) X rfl (by decide) inX12 (by decide) wf_X12_193 (fun _ _ _ => rfl) (by decide +kernel) rfl) (
    okc (ok_i2s X (by decide +kernel) rfl) (
    okc (ok_sast X opsS_ok (by decide +kernel) rfl) (
    okc (ok_aload_n (j := 0) X (by decide +kernel) rfl rfl) (
    okc (ok_getR (ci := 12) (kf := 30) (idx := 62) (C := RX12) (T := TX12) (N := 63) X rfl (by decide) inX12 (by decide) wf_X12_62 (fun _ _ _ => rfl) (by decide +kernel) rfl) (
    okc (ok_iconst (n := 1) X (by decide +kernel) rfl rfl) (
    okc (ok_dup2 X (by decide +kernel) rfl) (
    okc (ok_iald X (by decide +kernel) rfl) (
    okc (ok_iconst (n := 1) X (by decide +kernel) rfl rfl) (
    okc (ok_iadd X (by decide +kernel) rfl) (
    okc (ok_iast X opsS_ok (by decide +kernel) rfl) (
    okc (ok_vret hret (by decide +kernel)) (
    okn))))))))))))))))))))))))))))))))))))))))))))))))))))))
noncomputable def es_X12_line  : List (Nat × En) := [(177, en_X12_either (g_X12R fuelR)), (166, en_X12_look)]
set_option maxRecDepth 100000 in
set_option maxHeartbeats 4000000 in
theorem eq_X12_line    (s : SS) : ex (tb_X12_line (calE (es_X12_line))) rV [] (fun _ _ _ _ => none) 56 0 [some (.ref 74), none] [] s = f_X12_line  s := by
  rfl
set_option maxRecDepth 100000 in
set_option maxHeartbeats 4000000 in
theorem run_X12_line {l : Launch} {G : Gm}    (s : SS) (q : SS) (h : f_X12_line  s = some q) (D' : Nat) (hD : 103 ≤ D') : RunsM l G (D' + 1) (md 178) (embS s) [.ref 74] none (embS q) := by
  rw [md_X12_line]
  refine runs_V (plainFor_of_name (by decide +kernel)) (Nat.le_of_ble_eq_true rfl) rfl ?_
  intro A p e R s0 m args below meth c Q ad0 hR X hret
  have X : Cx G A RX12 cX12_line 2 p s0 m args c := X
  have hT := tk_X12_line X (calE_ok (es := es_X12_line) (enc (en_X12_either_ok (g_X12R_ok _ _ (by rw [fuelR_eq]; omega))) (enc (en_X12_look_ok _ (by omega)) (enn)))) (rmD rfl hR) hret
  rw [← eq_X12_line    s] at h
  refine ex_good hT (fun pc' ls' st' x' hh => ?_) 56 0 _ [] s h
  cases hh

noncomputable def en_X12_line  : En := fun _ av s k => match av with
  | [.ref r0] => (gd (Nat.beq r0 74) (bV (f_X12_line  s) k))
  | _ => none
set_option maxRecDepth 100000 in
set_option maxHeartbeats 4000000 in
theorem en_X12_line_ok {l : Launch} {G : Gm} (D : Nat) (hD : 104 ≤ D) : enOK l G D 178 en_X12_line := by
  intro ρ av x k r h
  unfold en_X12_line at h
  split at h
  · obtain ⟨g0, h⟩ := gd_some h
    obtain ⟨q, h1, h2⟩ := bind_of h
    have e0 := beq1 g0
    subst e0
    obtain ⟨D', rfl⟩ : ∃ D', D = D' + 1 := ⟨D - 1, by omega⟩
    exact ⟨_, _, h2, run_X12_line   _ _ h1 D' (by omega)⟩
  · cases h

/-! HatRankModel readText -/
noncomputable def tb_X12_readText (cal : Cal SS) : List (Nat × Ins SS) := [(0, e_aload 0 1), (1, e_iconst (0) 2), (2, e_putI opsS 12 24 5), (5, e_aload 0 6), (6, e_iconst (-1) 7), (7, e_putI opsS 12 25 10), (10, e_aload 0 11), (11, e_iconst (0) 12), (12, e_putI opsS 12 26 15), (15, e_aload 0 16), (16, e_iconst (0) 17), (17, e_putI opsS 12 27 20), (20, e_aload 0 21), (21, e_getR opsS 12 30 24), (24, e_iconst (1) 25), (25, e_iconst (0) 26), (26, e_ast opsS 100 (fun v => v) 27), (27, e_aload 0 28), (28, e_callV opsS cal 178 0 12 31), (31, e_aload 0 32), (32, e_getI opsS 12 25 35), (35, e_ifge 64 38), (38, e_aload 0 39), (39, e_callV opsS cal 166 0 12 42), (42, e_iconst (59) 44), (44, e_cne 64 47), (47, e_aload 0 48), (48, e_dup 49), (49, e_getI opsS 12 24 52), (52, e_iconst (1) 53), (53, e_bin aAdd 54), (54, e_putI opsS 12 24 57), (57, e_aload 0 58), (58, e_callV opsS cal 178 0 12 61), (61, e_goto 31), (64, e_aload 0 65), (65, e_getI opsS 12 25 68), (68, e_ifge 86 71), (71, e_aload 0 72), (72, e_getI opsS 12 24 75), (75, e_aload 0 76), (76, e_getI opsS 12 23 79), (79, e_cge 86 82), (82, e_aload 0 83), (83, e_callV opsS cal 167 0 12 86), (86, e_aload 0 87), (87, e_iconst (0) 88), (88, e_putI opsS 12 23 91), (91, e_aload 0 92), (92, e_getI opsS 12 25 95), (95, e_iflt 103 98), (98, e_aload 0 99), (99, e_getI opsS 12 25 102), (102, e_iret), (103, e_iconst (0) 104), (104, e_istore 2 105), (105, e_iload 2 106), (106, e_aload 0 107), (107, e_getI opsS 12 27 110), (110, e_cge 163 113), (113, e_aload 0 114), (114, e_getR opsS 12 28 117), (117, e_iconst (130) 120), (120, e_iload 1 121), (121, e_bin aMul 122), (122, e_iload 2 123), (123, e_bin aAdd 124), (124, e_aload 0 125), (125, e_getR opsS 12 28 128), (128, e_iconst (130) 131), (131, e_iload 2 132), (132, e_bin aAdd 133), (133, e_ald opsS 102 134), (134, e_ast opsS 102 aB 135), (135, e_aload 0 136), (136, e_getR opsS 12 29 139), (139, e_iconst (130) 142), (142, e_iload 1 143), (143, e_bin aMul 144), (144, e_iload 2 145), (145, e_bin aAdd 146), (146, e_aload 0 147), (147, e_getR opsS 12 29 150), (150, e_iconst (130) 153), (153, e_iload 2 154), (154, e_bin aAdd 155), (155, e_ald opsS 100 156), (156, e_ast opsS 100 (fun v => v) 157), (157, e_iinc 2 (1) 160), (160, e_goto 105), (163, e_aload 0 164), (164, e_getR opsS 12 30 167), (167, e_iload 1 168), (168, e_aload 0 169), (169, e_getR opsS 12 30 172), (172, e_iconst (1) 173), (173, e_ald opsS 100 174), (174, e_ast opsS 100 (fun v => v) 175), (175, e_iconst (0) 176), (176, e_istore 2 177), (177, e_iload 2 178), (178, e_aload 0 179), (179, e_getR opsS 12 30 182), (182, e_iload 1 183), (183, e_ald opsS 100 184), (184, e_cge 233 187), (187, e_aload 0 188), (188, e_getR opsS 12 31 191), (191, e_iconst (61) 193), (193, e_iload 1 194), (194, e_bin aMul 195), (195, e_iload 2 196), (196, e_bin aAdd 197), (197, e_aload 0 198), (198, e_getR opsS 12 31 201), (201, e_iconst (61) 203), (203, e_iload 2 204), (204, e_bin aAdd 205), (205, e_ald opsS 103 206), (206, e_ast opsS 103 aS 207), (207, e_aload 0 208), (208, e_getR opsS 12 32 211), (211, e_iconst (61) 213), (213, e_iload 1 214), (214, e_bin aMul 215), (215, e_iload 2 216), (216, e_bin aAdd 217), (217, e_aload 0 218), (218, e_getR opsS 12 32 221), (221, e_iconst (61) 223), (223, e_iload 2 224), (224, e_bin aAdd 225), (225, e_ald opsS 103 226), (226, e_ast opsS 103 aS 227), (227, e_iinc 2 (1) 230), (230, e_goto 177), (233, e_iconst (-1) 234), (234, e_iret)]
set_option maxRecDepth 100000 in
set_option maxHeartbeats 4000000 in
theorem tk_X12_readText {ad0 : Nat → Nat} {G : Gm} {A : Nat → Prop} {p : Program} {l : Launch} {e : Env} {R : Room} {s0 : State} {m : MethodId} {args : Array Value} {below : List Frame} {meth : Method} {c : Code} {Q : State → Prop} {ρ : Type} {ret : Option Value → SS → Option ρ} {r : ρ} (X : Cx G A RX12 cX12_readText 3 p s0 m args c) {D' : Nat} {cal : Cal SS} (hcal : calOK l G opsS D' cal) (hRm : ∀ k, k ≤ 21 → D' + 1 ≤ R.frames ∧ 8 + (k + 11) + 40 * D' ≤ R.locals) (hret : RetK G A cX12_readText 113 6344 ad0 p l e R s0 m args below meth c Q opsS ret r .ireturn okI) : ∀ q ∈ tb_X12_readText cal, OKi G A 3 113 6344 ad0 p l e R s0 m args below meth c Q opsS ret r q.1 q.2 :=
    okc (ok_aload_n (j := 0) X (by decide +kernel) rfl rfl) (
    okc (ok_iconst (n := 0) X (by decide +kernel) rfl rfl) (
    okc (ok_putI (ci := 12) (kf := 24) (idx := 187) (C := RX12) (T := TX12) (N := 63) X opsS_ok rfl (by decide) inX12 tyX12_ok nmX12 (by decide) wf_X12_187 rfl (fun _ _ _ => rfl) (by decide +kernel) (by decide +kernel) rfl) (
    okc (ok_aload_n (j := 0) X (by decide +kernel) rfl rfl) (
    okc (ok_iconst (n := -1) X (by decide +kernel) rfl rfl) (
    okc (ok_putI (ci := 12) (kf := 25) (idx := 190) (C := RX12) (T := TX12) (N := 63) X opsS_ok rfl (by decide) inX12 tyX12_ok nmX12 (by decide) wf_X12_190 rfl (fun _ _ _ => rfl) (by decide +kernel) (by decide +kernel) rfl) (
    okc (ok_aload_n (j := 0) X (by decide +kernel) rfl rfl) (
    okc (ok_iconst (n := 0) X (by decide +kernel) rfl rfl) (
    okc (ok_putI (ci := 12) (kf := 26) (idx := 196) (C := RX12) (T := TX12) (N := 63) X opsS_ok rfl (by decide) inX12 tyX12_ok nmX12 (by decide) wf_X12_196 rfl (fun _ _ _ => rfl) (by decide +kernel) (by decide +kernel) rfl) (
    okc (ok_aload_n (j := 0) X (by decide +kernel) rfl rfl) (
    okc (ok_iconst (n := 0) X (by decide +kernel) rfl rfl) (
    okc (ok_putI (ci := 12) (kf := 27) (idx := 193) (C := RX12) (T := TX12) (N := 63) X opsS_ok rfl (by decide) inX12 tyX12_ok nmX12 (by decide) wf_X12_193 rfl (fun _ _ _ => rfl) (by decide +kernel) (by decide +kernel) rfl) (
    okc (ok_aload_n (j := 0) X (by decide +kernel) rfl rfl) (
    okc (ok_getR (ci := 12) (kf := 30) (idx := 62) (C := RX12) (T := TX12) (N := 63) X rfl (by decide) inX12 (by decide) wf_X12_62 (fun _ _ _ => rfl) (by decide +kernel) rfl) (
    okc (ok_iconst (n := 1) X (by decide +kernel) rfl rfl) (
    okc (ok_iconst (n := 0) X (by decide +kernel) rfl rfl) (
    okc (ok_iast X opsS_ok (by decide +kernel) rfl) (
    okc (ok_aload_n (j := 0) X (by decide +kernel) rfl rfl) (
    okc (ok_callV (ci := 12) (C := RX12) (T := TX12) (N := 63) (Y := (yX12_line, cX12_line, 2, none)) X hcal opsS_n md_X12_line rfl (by decide) rfl wc_X12_line wl_X12_239 wi_X12 wm_X12_line wv_X12_line (by decide +kernel) (hRm 2 (by decide)) (by decide +kernel) rfl) (
    okc (ok_aload_n (j := 0) X (by decide +kernel) rfl rfl) (
    okc (ok_getI (ci := 12) (kf := 25) (idx := 190) (C := RX12) (T := TX12) (N := 63) X rfl (by decide) inX12 (by decide) wf_X12_190 (fun _ _ _ => rfl) (by decide +kernel) rfl) (
    okc (ok_ifge (off := 29) X (by decide +kernel) (by decide) rfl) (
    okc (ok_aload_n (j := 0) X (by decide +kernel) rfl rfl) (
    okc (ok_callV (ci := 12) (C := RX12) (T := TX12) (N := 63) (Y := (yX12_look, cX12_look, 1, (some .int))) X hcal opsS_n md_X12_look rfl (by decide) rfl wc_X12_look wl_X12_202 wi_X12 wm_X12_look wv_X12_look (by decide +kernel) (hRm 1 (by decide)) (by decide +kernel) rfl) (
    okc (ok_bipush (n := 59) X (by decide +kernel) rfl rfl) (
    okc (ok_cne (off := 20) X (by decide +kernel) (by decide) rfl) (
    okc (ok_aload_n (j := 0) X (by decide +kernel) rfl rfl) (
    okc (ok_dup X (by decide +kernel) rfl) (
    okc (ok_getI (ci := 12) (kf := 24) (idx := 187) (C := RX12) (T := TX12) (N := 63) X rfl (by decide) inX12 (by decide) wf_X12_187 (fun _ _ _ => rfl) (by decide +kernel) rfl) (
    okc (ok_iconst (n := 1) X (by decide +kernel) rfl rfl) (
    okc (ok_iadd X (by decide +kernel) rfl) (
    okc (ok_putI (ci := 12) (kf := 24) (idx := 187) (C := RX12) (T := TX12) (N := 63) X opsS_ok rfl (by decide) inX12 tyX12_ok nmX12 (by decide) wf_X12_187 rfl (fun _ _ _ => rfl) (by decide +kernel) (by decide +kernel) rfl) (
    okc (ok_aload_n (j := 0) X (by decide +kernel) rfl rfl) (
    okc (ok_callV (ci := 12) (C := RX12) (T := TX12) (N := 63) (Y := (yX12_line, cX12_line, 2, none)) X hcal opsS_n md_X12_line rfl (by decide) rfl wc_X12_line wl_X12_239 wi_X12 wm_X12_line wv_X12_line (by decide +kernel) (hRm 2 (by decide)) (by decide +kernel) rfl) (
    okc (ok_goto (off := -30) X (by decide +kernel) (by decide)) (
    okc (ok_aload_n (j := 0) X (by decide +kernel) rfl rfl) (
    okc (ok_getI (ci := 12) (kf := 25) (idx := 190) (C := RX12) (T := TX12) (N := 63) X rfl (by decide) inX12 (by decide) wf_X12_190 (fun _ _ _ => rfl) (by decide +kernel) rfl) (
    okc (ok_ifge (off := 18) X (by decide +kernel) (by decide) rfl) (
    okc (ok_aload_n (j := 0) X (by decide +kernel) rfl rfl) (
    okc (ok_getI (ci := 12) (kf := 24) (idx := 187) (C := RX12) (T := TX12) (N := 63) X rfl (by decide) inX12 (by decide) wf_X12_187 (fun _ _ _ => rfl) (by decide +kernel) rfl) (
    okc (ok_aload_n (j := 0) X (by decide +kernel) rfl rfl) (
    okc (ok_getI (ci := 12) (kf := 23) (idx := 184) (C := RX12) (T := TX12) (N := 63) X rfl (by decide) inX12 (by decide) wf_X12_184 (fun _ _ _ => rfl) (by decide +kernel) rfl) (
    okc (ok_cge (off := 7) X (by decide +kernel) (by decide) rfl) (
    okc (ok_aload_n (j := 0) X (by decide +kernel) rfl rfl) (
    okc (ok_callV (ci := 12) (C := RX12) (T := TX12) (N := 63) (Y := (yX12_faulty, cX12_faulty, 1, none)) X hcal opsS_n md_X12_faulty rfl (by decide) rfl wc_X12_faulty wl_X12_199 wi_X12 wm_X12_faulty wv_X12_faulty (by decide +kernel) (hRm 1 (by decide)) (by decide +kernel) rfl) (
    okc (ok_aload_n (j := 0) X (by decide +kernel) rfl rfl) (
    okc (ok_iconst (n := 0) X (by decide +kernel) rfl rfl) (
    okc (ok_putI (ci := 12) (kf := 23) (idx := 184) (C := RX12) (T := TX12) (N := 63) X opsS_ok rfl (by decide) inX12 tyX12_ok nmX12 (by decide) wf_X12_184 rfl (fun _ _ _ => rfl) (by decide +kernel) (by decide +kernel) rfl) (
    okc (ok_aload_n (j := 0) X (by decide +kernel) rfl rfl) (
    okc (ok_getI (ci := 12) (kf := 25) (idx := 190) (C := RX12) (T := TX12) (N := 63) X rfl (by decide) inX12 (by decide) wf_X12_190 (fun _ _ _ => rfl) (by decide +kernel) rfl) (
    okc (ok_iflt (off := 8) X (by decide +kernel) (by decide) rfl) (
    okc (ok_aload_n (j := 0) X (by decide +kernel) rfl rfl) (
    okc (ok_getI (ci := 12) (kf := 25) (idx := 190) (C := RX12) (T := TX12) (N := 63) X rfl (by decide) inX12 (by decide) wf_X12_190 (fun _ _ _ => rfl) (by decide +kernel) rfl) (
    okc (ok_iret hret (by decide +kernel)) (
    okc (ok_iconst (n := 0) X (by decide +kernel) rfl rfl) (
    okc (ok_istore_n (j := 2) X (by decide +kernel) rfl rfl) (
    okc (ok_iload_n (j := 2) X (by decide +kernel) rfl rfl) (
    okc (ok_aload_n (j := 0) X (by decide +kernel) rfl rfl) (
    okc (ok_getI (ci := 12) (kf := 27) (idx := 193) (C := RX12) (T := TX12) (N := 63) X rfl (by decide) inX12 (by decide) wf_X12_193 (fun _ _ _ => rfl) (by decide +kernel) rfl) (
    okc (ok_cge (off := 53) X (by decide +kernel) (by decide) rfl) (
    okc (ok_aload_n (j := 0) X (by decide +kernel) rfl rfl) (
    okc (ok_getR (ci := 12) (kf := 28) (idx := 56) (C := RX12) (T := TX12) (N := 63) X rfl (by decide) inX12 (by decide) wf_X12_56 (fun _ _ _ => rfl) (by decide +kernel) rfl) (
    okc (ok_sipush (n := 130) X (by decide +kernel) rfl rfl) (
    okc (ok_iload_n (j := 1) X (by decide +kernel) rfl rfl) (
    okc (ok_imul X (by decide +kernel) rfl) (
    okc (ok_iload_n (j := 2) X (by decide +kernel) rfl rfl) (
    okc (ok_iadd X (by decide +kernel) rfl) (
    okc (ok_aload_n (j := 0) X (by decide +kernel) rfl rfl) (
    okc (ok_getR (ci := 12) (kf := 28) (idx := 56) (C := RX12) (T := TX12) (N := 63) X rfl (by decide) inX12 (by decide) wf_X12_56 (fun _ _ _ => rfl) (by decide +kernel) rfl) (
    okc (ok_sipush (n := 130) X (by decide +kernel) rfl rfl) (
    okc (ok_iload_n (j := 2) X (by decide +kernel) rfl rfl) (
    okc (ok_iadd X (by decide +kernel) rfl) (
    okc (ok_bald X (by decide +kernel) rfl) (
    okc (ok_bast X opsS_ok (by decide +kernel) rfl) (
    okc (ok_aload_n (j := 0) X (by decide +kernel) rfl rfl) (
    okc (ok_getR (ci := 12) (kf := 29) (idx := 59) (C := RX12) (T := TX12) (N := 63) X rfl (by decide) inX12 (by decide) wf_X12_59 (fun _ _ _ => rfl) (by decide +kernel) rfl) (
    okc (ok_sipush (n := 130) X (by decide +kernel) rfl rfl) (
    okc (ok_iload_n (j := 1) X (by decide +kernel) rfl rfl) (
    okc (ok_imul X (by decide +kernel) rfl) (
    okc (ok_iload_n (j := 2) X (by decide +kernel) rfl rfl) (
    okc (ok_iadd X (by decide +kernel) rfl) (
    okc (ok_aload_n (j := 0) X (by decide +kernel) rfl rfl) (
    okc (ok_getR (ci := 12) (kf := 29) (idx := 59) (C := RX12) (T := TX12) (N := 63) X rfl (by decide) inX12 (by decide) wf_X12_59 (fun _ _ _ => rfl) (by decide +kernel) rfl) (
    okc (ok_sipush (n := 130) X (by decide +kernel) rfl rfl) (
    okc (ok_iload_n (j := 2) X (by decide +kernel) rfl rfl) (
    okc (ok_iadd X (by decide +kernel) rfl) (
    okc (ok_iald X (by decide +kernel) rfl) (
    okc (ok_iast X opsS_ok (by decide +kernel) rfl) (
    okc (ok_iinc (n := 1) X (by decide +kernel) rfl rfl) (
    okc (ok_goto (off := -55) X (by decide +kernel) (by decide)) (
    okc (ok_aload_n (j := 0) X (by decide +kernel) rfl rfl) (
    okc (ok_getR (ci := 12) (kf := 30) (idx := 62) (C := RX12) (T := TX12) (N := 63) X rfl (by decide) inX12 (by decide) wf_X12_62 (fun _ _ _ => rfl) (by decide +kernel) rfl) (
    okc (ok_iload_n (j := 1) X (by decide +kernel) rfl rfl) (
    okc (ok_aload_n (j := 0) X (by decide +kernel) rfl rfl) (
    okc (ok_getR (ci := 12) (kf := 30) (idx := 62) (C := RX12) (T := TX12) (N := 63) X rfl (by decide) inX12 (by decide) wf_X12_62 (fun _ _ _ => rfl) (by decide +kernel) rfl) (
    okc (ok_iconst (n := 1) X (by decide +kernel) rfl rfl) (
    okc (ok_iald X (by decide +kernel) rfl) (
    okc (ok_iast X opsS_ok (by decide +kernel) rfl) (
    okc (ok_iconst (n := 0) X (by decide +kernel) rfl rfl) (
    okc (ok_istore_n (j := 2) X (by decide +kernel) rfl rfl) (
    okc (ok_iload_n (j := 2) X (by decide +kernel) rfl rfl) (
    okc (ok_aload_n (j := 0) X (by decide +kernel) rfl rfl) (
    okc (ok_getR (ci := 12) (kf := 30) (idx := 62) (C := RX12) (T := TX12) (N := 63) X rfl (by decide) inX12 (by decide) wf_X12_62 (fun _ _ _ => rfl) (by decide +kernel) rfl) (
    okc (ok_iload_n (j := 1) X (by decide +kernel) rfl rfl) (
    okc (ok_iald X (by decide +kernel) rfl) (
    okc (ok_cge (off := 49) X (by decide +kernel) (by decide) rfl) (
    okc (ok_aload_n (j := 0) X (by decide +kernel) rfl rfl) (
    okc (ok_getR (ci := 12) (kf := 31) (idx := 65) (C := RX12) (T := TX12) (N := 63) X rfl (by decide) inX12 (by decide) wf_X12_65 (fun _ _ _ => rfl) (by decide +kernel) rfl) (
    okc (ok_bipush (n := 61) X (by decide +kernel) rfl rfl) (
    okc (ok_iload_n (j := 1) X (by decide +kernel) rfl rfl) (
    okc (ok_imul X (by decide +kernel) rfl) (
    okc (ok_iload_n (j := 2) X (by decide +kernel) rfl rfl) (
    okc (ok_iadd X (by decide +kernel) rfl) (
    okc (ok_aload_n (j := 0) X (by decide +kernel) rfl rfl) (
    okc (ok_getR (ci := 12) (kf := 31) (idx := 65) (C := RX12) (T := TX12) (N := 63) X rfl (by decide) inX12 (by decide) wf_X12_65 (fun _ _ _ => rfl) (by decide +kernel) rfl) (
    okc (ok_bipush (n := 61) X (by decide +kernel) rfl rfl) (
    okc (ok_iload_n (j := 2) X (by decide +kernel) rfl rfl) (
    okc (ok_iadd X (by decide +kernel) rfl) (
    okc (ok_sald X (by decide +kernel) rfl) (
    okc (ok_sast X opsS_ok (by decide +kernel) rfl) (
    okc (ok_aload_n (j := 0) X (by decide +kernel) rfl rfl) (
    okc (ok_getR (ci := 12) (kf := 32) (idx := 69) (C := RX12) (T := TX12) (N := 63) X rfl (by decide) inX12 (by decide) wf_X12_69 (fun _ _ _ => rfl) (by decide +kernel) rfl) (
    okc (ok_bipush (n := 61) X (by decide +kernel) rfl rfl) (
    okc (ok_iload_n (j := 1) X (by decide +kernel) rfl rfl) (
    okc (ok_imul X (by decide +kernel) rfl) (
    okc (ok_iload_n (j := 2) X (by decide +kernel) rfl rfl) (
    okc (ok_iadd X (by decide +kernel) rfl) (
    okc (ok_aload_n (j := 0) X (by decide +kernel) rfl rfl) (
    okc (ok_getR (ci := 12) (kf := 32) (idx := 69) (C := RX12) (T := TX12) (N := 63) X rfl (by decide) inX12 (by decide) wf_X12_69 (fun _ _ _ => rfl) (by decide +kernel) rfl) (
    okc (ok_bipush (n := 61) X (by decide +kernel) rfl rfl) (
    okc (ok_iload_n (j := 2) X (by decide +kernel) rfl rfl) (
    okc (ok_iadd X (by decide +kernel) rfl) (
    okc (ok_sald X (by decide +kernel) rfl) (
    okc (ok_sast X opsS_ok (by decide +kernel) rfl) (
    okc (ok_iinc (n := 1) X (by decide +kernel) rfl rfl) (
    okc (ok_goto (off := -53) X (by decide +kernel) (by decide)) (
    okc (ok_iconst (n := -1) X (by decide +kernel) rfl rfl) (
    okc (ok_iret hret (by decide +kernel)) (
    okn))))))))))))))))))))))))))))))))))))))))))))))))))))))))))))))))))))))))))))))))))))))))))))))))))))))))))))))))))))))))))))))))))))))))))
noncomputable def es_X12_readText  : List (Nat × En) := [(178, en_X12_line), (166, en_X12_look), (167, en_X12_faulty)]
noncomputable def ka_X12_readText_177   (n : Nat) : Kn SS (Int32 × SS) := fun pc ls st s => bif Nat.beq pc 177 then (match ls, st with
    | [some y0, some (.int x1), some (.int x2)], [] => (gd (veq y0 (.ref 74)) (F_X12_readText_177 n x1 x2 s))
    | _, _ => none) else (none)
set_option maxRecDepth 100000 in
set_option maxHeartbeats 4000000 in
theorem eq_X12_readText_177    (n : Nat) (x1 : Int32) (x2 : Int32) (s : SS) : ex (tb_X12_readText (calE (es_X12_readText))) rI [31, 105, 177] (ka_X12_readText_177   n) 140 177 [some (.ref 74), some (.int x1), some (.int x2)] [] s = F_X12_readText_177   (n + 1) x1 x2 s := by
  rfl
noncomputable def ka_X12_readText_105   (n : Nat) : Kn SS (Int32 × SS) := fun pc ls st s => bif Nat.beq pc 105 then (match ls, st with
    | [some y0, some (.int x1), some (.int x2)], [] => (gd (veq y0 (.ref 74)) (F_X12_readText_105 n x1 x2 s))
    | _, _ => none) else (bif Nat.beq pc 177 then (match ls, st with
    | [some y0, some (.int x1), some (.int x2)], [] => (gd (veq y0 (.ref 74)) (F_X12_readText_177 fuel0 x1 x2 s))
    | _, _ => none) else (none))
set_option maxRecDepth 100000 in
set_option maxHeartbeats 4000000 in
theorem eq_X12_readText_105    (n : Nat) (x1 : Int32) (x2 : Int32) (s : SS) : ex (tb_X12_readText (calE (es_X12_readText))) rI [31, 105, 177] (ka_X12_readText_105   n) 140 105 [some (.ref 74), some (.int x1), some (.int x2)] [] s = F_X12_readText_105   (n + 1) x1 x2 s := by
  rfl
noncomputable def ka_X12_readText_31   (n : Nat) : Kn SS (Int32 × SS) := fun pc ls st s => bif Nat.beq pc 31 then (match ls, st with
    | [some y0, some (.int x1), _], [] => (gd (veq y0 (.ref 74)) (F_X12_readText_31 n x1 s))
    | _, _ => none) else (bif Nat.beq pc 105 then (match ls, st with
    | [some y0, some (.int x1), some (.int x2)], [] => (gd (veq y0 (.ref 74)) (F_X12_readText_105 fuel0 x1 x2 s))
    | _, _ => none) else (none))
set_option maxRecDepth 100000 in
set_option maxHeartbeats 4000000 in
theorem eq_X12_readText_31    (n : Nat) (x1 : Int32) (s : SS) : ex (tb_X12_readText (calE (es_X12_readText))) rI [31, 105, 177] (ka_X12_readText_31   n) 140 31 [some (.ref 74), some (.int x1), none] [] s = F_X12_readText_31   (n + 1) x1 s := by
  rfl
set_option maxRecDepth 100000 in
set_option maxHeartbeats 4000000 in
theorem gd_X12_readText_177 {ad0 : Nat → Nat} {G : Gm} {A : Nat → Prop} {p : Program} {l : Launch} {e : Env} {R : Room} {s0 : State} {m : MethodId} {args : Array Value} {below : List Frame} {meth : Method} {c : Code} {Q : State → Prop} {r : (Int32 × SS)}   (hT : ∀ q ∈ tb_X12_readText (calE (es_X12_readText)), OKi G A 3 113 6344 ad0 p l e R s0 m args below meth c Q opsS rI r q.1 q.2)   : ∀ (n : Nat) (x1 : Int32) (x2 : Int32) (s : SS), F_X12_readText_177   n x1 x2 s = some r → Gd G A 3 113 6344 ad0 p l e R s0 m args below meth c Q opsS 177 [some (.ref 74), some (.int x1), some (.int x2)] [] s := by
  intro n
  induction n with
  | zero =>
    intro x1 x2 s hh
    exact absurd (show (none : Option (Int32 × SS)) = some r from hh) (by simp)
  | succ n ih =>
    intro x1 x2 s hh
    rw [← eq_X12_readText_177    n x1 x2 s] at hh
    refine ex_good hT (fun pc' ls' st' x' hh => ?_) 140 177 _ [] s hh
    unfold ka_X12_readText_177 at hh
    cases hb : Nat.beq pc' 177 with
    | true =>
      rw [hb] at hh
      have e9 := beq1 hb
      subst e9
      simp only [cond_true] at hh
      split at hh
      · obtain ⟨g0, hh1⟩ := gd_some hh
        have e0 := veq_of g0
        subst e0
        exact Gd.wk (ih _ _ _ hh1) (Lle.eq (Lle.eq (Lle.eq Lle.nil)))
      · cases hh
    | false =>
      rw [hb] at hh
      simp only [cond_false] at hh
      cases hh

set_option maxRecDepth 100000 in
set_option maxHeartbeats 4000000 in
theorem gd_X12_readText_105 {ad0 : Nat → Nat} {G : Gm} {A : Nat → Prop} {p : Program} {l : Launch} {e : Env} {R : Room} {s0 : State} {m : MethodId} {args : Array Value} {below : List Frame} {meth : Method} {c : Code} {Q : State → Prop} {r : (Int32 × SS)}   (hT : ∀ q ∈ tb_X12_readText (calE (es_X12_readText)), OKi G A 3 113 6344 ad0 p l e R s0 m args below meth c Q opsS rI r q.1 q.2)   : ∀ (n : Nat) (x1 : Int32) (x2 : Int32) (s : SS), F_X12_readText_105   n x1 x2 s = some r → Gd G A 3 113 6344 ad0 p l e R s0 m args below meth c Q opsS 105 [some (.ref 74), some (.int x1), some (.int x2)] [] s := by
  intro n
  induction n with
  | zero =>
    intro x1 x2 s hh
    exact absurd (show (none : Option (Int32 × SS)) = some r from hh) (by simp)
  | succ n ih =>
    intro x1 x2 s hh
    rw [← eq_X12_readText_105    n x1 x2 s] at hh
    refine ex_good hT (fun pc' ls' st' x' hh => ?_) 140 105 _ [] s hh
    unfold ka_X12_readText_105 at hh
    cases hb : Nat.beq pc' 105 with
    | true =>
      rw [hb] at hh
      have e9 := beq1 hb
      subst e9
      simp only [cond_true] at hh
      split at hh
      · obtain ⟨g0, hh1⟩ := gd_some hh
        have e0 := veq_of g0
        subst e0
        exact Gd.wk (ih _ _ _ hh1) (Lle.eq (Lle.eq (Lle.eq Lle.nil)))
      · cases hh
    | false =>
      rw [hb] at hh
      simp only [cond_false] at hh
      cases hb : Nat.beq pc' 177 with
      | true =>
        rw [hb] at hh
        have e9 := beq1 hb
        subst e9
        simp only [cond_true] at hh
        split at hh
        · obtain ⟨g0, hh1⟩ := gd_some hh
          have e0 := veq_of g0
          subst e0
          exact Gd.wk (gd_X12_readText_177 hT   _ _ _ _ hh1) (Lle.eq (Lle.eq (Lle.eq Lle.nil)))
        · cases hh
      | false =>
        rw [hb] at hh
        simp only [cond_false] at hh
        cases hh

set_option maxRecDepth 100000 in
set_option maxHeartbeats 4000000 in
theorem gd_X12_readText_31 {ad0 : Nat → Nat} {G : Gm} {A : Nat → Prop} {p : Program} {l : Launch} {e : Env} {R : Room} {s0 : State} {m : MethodId} {args : Array Value} {below : List Frame} {meth : Method} {c : Code} {Q : State → Prop} {r : (Int32 × SS)}   (hT : ∀ q ∈ tb_X12_readText (calE (es_X12_readText)), OKi G A 3 113 6344 ad0 p l e R s0 m args below meth c Q opsS rI r q.1 q.2)   : ∀ (n : Nat) (x1 : Int32) (s : SS), F_X12_readText_31   n x1 s = some r → Gd G A 3 113 6344 ad0 p l e R s0 m args below meth c Q opsS 31 [some (.ref 74), some (.int x1), none] [] s := by
  intro n
  induction n with
  | zero =>
    intro x1 s hh
    exact absurd (show (none : Option (Int32 × SS)) = some r from hh) (by simp)
  | succ n ih =>
    intro x1 s hh
    rw [← eq_X12_readText_31    n x1 s] at hh
    refine ex_good hT (fun pc' ls' st' x' hh => ?_) 140 31 _ [] s hh
    unfold ka_X12_readText_31 at hh
    cases hb : Nat.beq pc' 31 with
    | true =>
      rw [hb] at hh
      have e9 := beq1 hb
      subst e9
      simp only [cond_true] at hh
      split at hh
      · obtain ⟨g0, hh1⟩ := gd_some hh
        have e0 := veq_of g0
        subst e0
        exact Gd.wk (ih _ _ hh1) (Lle.eq (Lle.eq (Lle.no Lle.nil)))
      · cases hh
    | false =>
      rw [hb] at hh
      simp only [cond_false] at hh
      cases hb : Nat.beq pc' 105 with
      | true =>
        rw [hb] at hh
        have e9 := beq1 hb
        subst e9
        simp only [cond_true] at hh
        split at hh
        · obtain ⟨g0, hh1⟩ := gd_some hh
          have e0 := veq_of g0
          subst e0
          exact Gd.wk (gd_X12_readText_105 hT   _ _ _ _ hh1) (Lle.eq (Lle.eq (Lle.eq Lle.nil)))
        · cases hh
      | false =>
        rw [hb] at hh
        simp only [cond_false] at hh
        cases hh

noncomputable def ka_X12_readText  : Kn SS (Int32 × SS) := fun pc ls st s => bif Nat.beq pc 31 then (match ls, st with
    | [some y0, some (.int x1), _], [] => (gd (veq y0 (.ref 74)) (F_X12_readText_31 fuel0 x1 s))
    | _, _ => none) else (none)
set_option maxRecDepth 100000 in
set_option maxHeartbeats 4000000 in
theorem eq_X12_readText   (a0 : Int32) (s : SS) : ex (tb_X12_readText (calE (es_X12_readText))) rI [31, 105, 177] (ka_X12_readText ) 140 0 [some (.ref 74), some (.int a0), none] [] s = f_X12_readText a0 s := by
  rfl
set_option maxRecDepth 100000 in
set_option maxHeartbeats 4000000 in
theorem run_X12_readText {l : Launch} {G : Gm}   (a0 : Int32) (s : SS) (q : (Int32 × SS)) (h : f_X12_readText a0 s = some q) (D' : Nat) (hD : 104 ≤ D') : RunsM l G (D' + 1) (md 179) (embS s) [.ref 74, .int a0] (some (.int q.1)) (embS q.2) := by
  rw [md_X12_readText]
  refine runs_I (plainFor_of_name (by decide +kernel)) (Nat.le_of_ble_eq_true rfl) rfl ?_
  intro A p e R s0 m args below meth c Q ad0 hR X hret
  have X : Cx G A RX12 cX12_readText 3 p s0 m args c := X
  have hT := tk_X12_readText X (calE_ok (es := es_X12_readText) (enc (en_X12_line_ok _ (by omega)) (enc (en_X12_look_ok _ (by omega)) (enc (en_X12_faulty_ok _ (by omega)) (enn))))) (rmD rfl hR) hret
  rw [← eq_X12_readText   a0 s] at h
  refine ex_good hT (fun pc' ls' st' x' hh => ?_) 140 0 _ [] s h
  unfold ka_X12_readText at hh
  cases hb : Nat.beq pc' 31 with
  | true =>
    rw [hb] at hh
    have e9 := beq1 hb
    subst e9
    simp only [cond_true] at hh
    split at hh
    · obtain ⟨g0, hh1⟩ := gd_some hh
      have e0 := veq_of g0
      subst e0
      exact Gd.wk (gd_X12_readText_31 hT  _ _ _ hh1) (Lle.eq (Lle.eq (Lle.no Lle.nil)))
    · cases hh
  | false =>
    rw [hb] at hh
    simp only [cond_false] at hh
    cases hh

noncomputable def en_X12_readText  : En := fun _ av s k => match av with
  | [.ref r0, .int a0] => (gd (Nat.beq r0 74) (bI (f_X12_readText a0 s) k))
  | _ => none
set_option maxRecDepth 100000 in
set_option maxHeartbeats 4000000 in
theorem en_X12_readText_ok {l : Launch} {G : Gm} (D : Nat) (hD : 105 ≤ D) : enOK l G D 179 en_X12_readText := by
  intro ρ av x k r h
  unfold en_X12_readText at h
  split at h
  · obtain ⟨g0, h⟩ := gd_some h
    obtain ⟨q, h1, h2⟩ := bind_of h
    have e0 := beq1 g0
    subst e0
    obtain ⟨D', rfl⟩ : ∃ D', D = D' + 1 := ⟨D - 1, by omega⟩
    exact ⟨_, _, h2, run_X12_readText  _ _ _ h1 D' (by omega)⟩
  · cases h

/-! HatRankModel twoOf -/
noncomputable def tb_X12_twoOf (cal : Cal SS) : List (Nat × Ins SS) := [(0, e_iload 0 1), (1, e_sw [(37, 154), (38, 204), (39, 218), (40, 218), (41, 218), (42, 128), (43, 120), (44, 218), (45, 124), (46, 218), (47, 132), (48, 218), (49, 218), (50, 218), (51, 218), (52, 218), (53, 218), (54, 218), (55, 218), (56, 218), (57, 218), (58, 218), (59, 218), (60, 171), (61, 182), (62, 193)] 218), (120, e_iload 1 121), (121, e_iload 2 122), (122, e_bin aAdd 123), (123, e_iret), (124, e_iload 1 125), (125, e_iload 2 126), (126, e_bin aSub 127), (127, e_iret), (128, e_iload 1 129), (129, e_iload 2 130), (130, e_bin aMul 131), (131, e_iret), (132, e_iload 2 133), (133, e_ifne 140 136), (136, e_iconst (0) 137), (137, e_goto 153), (140, e_iload 2 141), (141, e_iconst (-1) 142), (142, e_cne 150 145), (145, e_iload 1 146), (146, e_un aNeg 147), (147, e_goto 153), (150, e_iload 1 151), (151, e_iload 2 152), (152, e_div aDiv 153), (153, e_iret), (154, e_iload 2 155), (155, e_ifeq 163 158), (158, e_iload 2 159), (159, e_iconst (-1) 160), (160, e_cne 167 163), (163, e_iconst (0) 164), (164, e_goto 170), (167, e_iload 1 168), (168, e_iload 2 169), (169, e_div aRem 170), (170, e_iret), (171, e_iload 1 172), (172, e_iload 2 173), (173, e_cge 180 176), (176, e_iconst (1) 177), (177, e_goto 181), (180, e_iconst (0) 181), (181, e_iret), (182, e_iload 1 183), (183, e_iload 2 184), (184, e_cne 191 187), (187, e_iconst (1) 188), (188, e_goto 192), (191, e_iconst (0) 192), (192, e_iret), (193, e_iload 1 194), (194, e_iload 2 195), (195, e_cle 202 198), (198, e_iconst (1) 199), (199, e_goto 203), (202, e_iconst (0) 203), (203, e_iret), (204, e_iload 1 205), (205, e_ifeq 216 208), (208, e_iload 2 209), (209, e_ifeq 216 212), (212, e_iconst (1) 213), (213, e_goto 217), (216, e_iconst (0) 217), (217, e_iret), (218, e_iload 1 219), (219, e_ifne 226 222), (222, e_iload 2 223), (223, e_ifeq 230 226), (226, e_iconst (1) 227), (227, e_goto 231), (230, e_iconst (0) 231), (231, e_iret)]
set_option maxRecDepth 100000 in
set_option maxHeartbeats 4000000 in
theorem tk_X12_twoOf {ad0 : Nat → Nat} {G : Gm} {A : Nat → Prop} {p : Program} {l : Launch} {e : Env} {R : Room} {s0 : State} {m : MethodId} {args : Array Value} {below : List Frame} {meth : Method} {c : Code} {Q : State → Prop} {ρ : Type} {ret : Option Value → SS → Option ρ} {r : ρ} (X : Cx G A RX12 cX12_twoOf 3 p s0 m args c) {D' : Nat} {cal : Cal SS} (hcal : calOK l G opsS D' cal) (hRm : ∀ k, k ≤ 21 → D' + 1 ≤ R.frames ∧ 8 + (k + 11) + 40 * D' ≤ R.locals) (hret : RetK G A cX12_twoOf 113 6344 ad0 p l e R s0 m args below meth c Q opsS ret r .ireturn okI) : ∀ q ∈ tb_X12_twoOf cal, OKi G A 3 113 6344 ad0 p l e R s0 m args below meth c Q opsS ret r q.1 q.2 :=
    okc (ok_iload_n (j := 0) X (by decide +kernel) rfl rfl) (
    okc (ok_tsw (dflt := 217) (lo := 37) (hi := 62) (offs := #[153, 203, 217, 217, 217, 127, 119, 217, 123, 217, 131, 217, 217, 217, 217, 217, 217, 217, 217, 217, 217, 217, 217, 170, 181, 192]) (len := 119) X (by decide +kernel) (tsw_out 1 217 37 62 #[153, 203, 217, 217, 217, 127, 119, 217, 123, 217, 131, 217, 217, 217, 217, 217, 217, 217, 217, 217, 217, 217, 217, 170, 181, 192] (by decide +kernel)) (tsw_in 1 217 37 62 #[153, 203, 217, 217, 217, 127, 119, 217, 123, 217, 131, 217, 217, 217, 217, 217, 217, 217, 217, 217, 217, 217, 217, 170, 181, 192] (by decide +kernel))) (
    okc (ok_iload_n (j := 1) X (by decide +kernel) rfl rfl) (
    okc (ok_iload_n (j := 2) X (by decide +kernel) rfl rfl) (
    okc (ok_iadd X (by decide +kernel) rfl) (
    okc (ok_iret hret (by decide +kernel)) (
    okc (ok_iload_n (j := 1) X (by decide +kernel) rfl rfl) (
    okc (ok_iload_n (j := 2) X (by decide +kernel) rfl rfl) (
    okc (ok_isub X (by decide +kernel) rfl) (
    okc (ok_iret hret (by decide +kernel)) (
    okc (ok_iload_n (j := 1) X (by decide +kernel) rfl rfl) (
    okc (ok_iload_n (j := 2) X (by decide +kernel) rfl rfl) (
    okc (ok_imul X (by decide +kernel) rfl) (
    okc (ok_iret hret (by decide +kernel)) (
    okc (ok_iload_n (j := 2) X (by decide +kernel) rfl rfl) (
    okc (ok_ifne (off := 7) X (by decide +kernel) (by decide) rfl) (
    okc (ok_iconst (n := 0) X (by decide +kernel) rfl rfl) (
    okc (ok_goto (off := 16) X (by decide +kernel) (by decide)) (
    okc (ok_iload_n (j := 2) X (by decide +kernel) rfl rfl) (
    okc (ok_iconst (n := -1) X (by decide +kernel) rfl rfl) (
    okc (ok_cne (off := 8) X (by decide +kernel) (by decide) rfl) (
    okc (ok_iload_n (j := 1) X (by decide +kernel) rfl rfl) (
    okc (ok_ineg X (by decide +kernel) rfl) (
    okc (ok_goto (off := 6) X (by decide +kernel) (by decide)) (
    okc (ok_iload_n (j := 1) X (by decide +kernel) rfl rfl) (
    okc (ok_iload_n (j := 2) X (by decide +kernel) rfl rfl) (
    okc (ok_idiv X (by decide +kernel) rfl) (
    okc (ok_iret hret (by decide +kernel)) (
    okc (ok_iload_n (j := 2) X (by decide +kernel) rfl rfl) (
    okc (ok_ifeq (off := 8) X (by decide +kernel) (by decide) rfl) (
    okc (ok_iload_n (j := 2) X (by decide +kernel) rfl rfl) (
    okc (ok_iconst (n := -1) X (by decide +kernel) rfl rfl) (
    okc (ok_cne (off := 7) X (by decide +kernel) (by decide) rfl) (
    okc (ok_iconst (n := 0) X (by decide +kernel) rfl rfl) (
    okc (ok_goto (off := 6) X (by decide +kernel) (by decide)) (
    okc (ok_iload_n (j := 1) X (by decide +kernel) rfl rfl) (
    okc (ok_iload_n (j := 2) X (by decide +kernel) rfl rfl) (
    okc (ok_irem X (by decide +kernel) rfl) (
    okc (ok_iret hret (by decide +kernel)) (
    okc (ok_iload_n (j := 1) X (by decide +kernel) rfl rfl) (
    okc (ok_iload_n (j := 2) X (by decide +kernel) rfl rfl) (
    okc (ok_cge (off := 7) X (by decide +kernel) (by decide) rfl) (
    okc (ok_iconst (n := 1) X (by decide +kernel) rfl rfl) (
    okc (ok_goto (off := 4) X (by decide +kernel) (by decide)) (
    okc (ok_iconst (n := 0) X (by decide +kernel) rfl rfl) (
    okc (ok_iret hret (by decide +kernel)) (
    okc (ok_iload_n (j := 1) X (by decide +kernel) rfl rfl) (
    okc (ok_iload_n (j := 2) X (by decide +kernel) rfl rfl) (
    okc (ok_cne (off := 7) X (by decide +kernel) (by decide) rfl) (
    okc (ok_iconst (n := 1) X (by decide +kernel) rfl rfl) (
    okc (ok_goto (off := 4) X (by decide +kernel) (by decide)) (
    okc (ok_iconst (n := 0) X (by decide +kernel) rfl rfl) (
    okc (ok_iret hret (by decide +kernel)) (
    okc (ok_iload_n (j := 1) X (by decide +kernel) rfl rfl) (
    okc (ok_iload_n (j := 2) X (by decide +kernel) rfl rfl) (
    okc (ok_cle (off := 7) X (by decide +kernel) (by decide) rfl) (
    okc (ok_iconst (n := 1) X (by decide +kernel) rfl rfl) (
    okc (ok_goto (off := 4) X (by decide +kernel) (by decide)) (
    okc (ok_iconst (n := 0) X (by decide +kernel) rfl rfl) (
    okc (ok_iret hret (by decide +kernel)) (
    okc (ok_iload_n (j := 1) X (by decide +kernel) rfl rfl) (
    okc (ok_ifeq (off := 11) X (by decide +kernel) (by decide) rfl) (
    okc (ok_iload_n (j := 2) X (by decide +kernel) rfl rfl) (
    okc (ok_ifeq (off := 7) X (by decide +kernel) (by decide) rfl) (
    okc (ok_iconst (n := 1) X (by decide +kernel) rfl rfl) (
    okc (ok_goto (off := 4) X (by decide +kernel) (by decide)) (
    okc (ok_iconst (n := 0) X (by decide +kernel) rfl rfl) (
    okc (ok_iret hret (by decide +kernel)) (
    okc (ok_iload_n (j := 1) X (by decide +kernel) rfl rfl) (
    okc (ok_ifne (off := 7) X (by decide +kernel) (by decide) rfl) (
    okc (ok_iload_n (j := 2) X (by decide +kernel) rfl rfl) (
    okc (ok_ifeq (off := 7) X (by decide +kernel) (by decide) rfl) (
    okc (ok_iconst (n := 1) X (by decide +kernel) rfl rfl) (
    okc (ok_goto (off := 4) X (by decide +kernel) (by decide)) (
    okc (ok_iconst (n := 0) X (by decide +kernel) rfl rfl) (
    okc (ok_iret hret (by decide +kernel)) (
    okn))))))))))))))))))))))))))))))))))))))))))))))))))))))))))))))))))))))))))))
noncomputable def es_X12_twoOf  : List (Nat × En) := []
set_option maxRecDepth 100000 in
set_option maxHeartbeats 4000000 in
theorem eq_X12_twoOf   (a0 : Int32) (a1 : Int32) (a2 : Int32) (s : SS) : ex (tb_X12_twoOf (calE (es_X12_twoOf))) rI [] (fun _ _ _ _ => none) 78 0 [some (.int a0), some (.int a1), some (.int a2)] [] s = f_X12_twoOf a0 a1 a2 s := by
  rfl
set_option maxRecDepth 100000 in
set_option maxHeartbeats 4000000 in
theorem run_X12_twoOf {l : Launch} {G : Gm}   (a0 : Int32) (a1 : Int32) (a2 : Int32) (s : SS) (q : (Int32 × SS)) (h : f_X12_twoOf a0 a1 a2 s = some q) (D' : Nat) (hD : 0 ≤ D') : RunsM l G (D' + 1) (md 180) (embS s) [.int a0, .int a1, .int a2] (some (.int q.1)) (embS q.2) := by
  rw [md_X12_twoOf]
  refine runs_I (plainFor_of_name (by decide +kernel)) (Nat.le_of_ble_eq_true rfl) rfl ?_
  intro A p e R s0 m args below meth c Q ad0 hR X hret
  have X : Cx G A RX12 cX12_twoOf 3 p s0 m args c := X
  have hT := tk_X12_twoOf X (calE_ok (es := es_X12_twoOf) (enn)) (rmD rfl hR) hret
  rw [← eq_X12_twoOf   a0 a1 a2 s] at h
  refine ex_good hT (fun pc' ls' st' x' hh => ?_) 78 0 _ [] s h
  cases hh

noncomputable def en_X12_twoOf  : En := fun _ av s k => match av with
  | [.int a0, .int a1, .int a2] => (bI (f_X12_twoOf a0 a1 a2 s) k)
  | _ => none
set_option maxRecDepth 100000 in
set_option maxHeartbeats 4000000 in
theorem en_X12_twoOf_ok {l : Launch} {G : Gm} (D : Nat) (hD : 1 ≤ D) : enOK l G D 180 en_X12_twoOf := by
  intro ρ av x k r h
  unfold en_X12_twoOf at h
  split at h
  · obtain ⟨q, h1, h2⟩ := bind_of h
    obtain ⟨D', rfl⟩ : ∃ D', D = D' + 1 := ⟨D - 1, by omega⟩
    exact ⟨_, _, h2, run_X12_twoOf  _ _ _ _ _ h1 D' (by omega)⟩
  · cases h

/-! HatRankModel worked -/
noncomputable def tb_X12_worked (cal : Cal SS) : List (Nat × Ins SS) := [(0, e_iconst (0) 1), (1, e_istore 4 3), (3, e_iconst (130) 6), (6, e_iload 1 7), (7, e_bin aMul 8), (8, e_iload 2 9), (9, e_bin aAdd 10), (10, e_istore 5 12), (12, e_iload 5 14), (14, e_iconst (130) 17), (17, e_iload 1 18), (18, e_bin aMul 19), (19, e_iload 3 20), (20, e_bin aAdd 21), (21, e_cge 188 24), (24, e_aload 0 25), (25, e_getR opsS 12 28 28), (28, e_iload 5 30), (30, e_ald opsS 102 31), (31, e_istore 6 33), (33, e_iload 6 35), (35, e_iconst (1) 36), (36, e_ceq 45 39), (39, e_iload 6 41), (41, e_iconst (2) 42), (42, e_cne 86 45), (45, e_aload 0 46), (46, e_getR opsS 12 34 49), (49, e_iload 4 51), (51, e_iload 6 53), (53, e_iconst (1) 54), (54, e_cne 67 57), (57, e_aload 0 58), (58, e_getR opsS 12 29 61), (61, e_iload 5 63), (63, e_ald opsS 100 64), (64, e_goto 79), (67, e_aload 0 68), (68, e_getR opsS 12 33 71), (71, e_aload 0 72), (72, e_getR opsS 12 29 75), (75, e_iload 5 77), (77, e_ald opsS 100 78), (78, e_ald opsS 100 79), (79, e_ast opsS 100 (fun v => v) 80), (80, e_iinc 4 (1) 83), (83, e_goto 182), (86, e_iload 6 88), (88, e_iconst (3) 89), (89, e_cne 121 92), (92, e_aload 0 93), (93, e_getR opsS 12 34 96), (96, e_iload 4 98), (98, e_iconst (1) 99), (99, e_bin aSub 100), (100, e_aload 0 101), (101, e_getR opsS 12 34 104), (104, e_iload 4 106), (106, e_iconst (1) 107), (107, e_bin aSub 108), (108, e_ald opsS 100 109), (109, e_ifne 116 112), (112, e_iconst (1) 113), (113, e_goto 117), (116, e_iconst (0) 117), (117, e_ast opsS 100 (fun v => v) 118), (118, e_goto 182), (121, e_iload 6 123), (123, e_iconst (4) 124), (124, e_cne 149 127), (127, e_aload 0 128), (128, e_getR opsS 12 34 131), (131, e_iload 4 133), (133, e_iconst (1) 134), (134, e_bin aSub 135), (135, e_aload 0 136), (136, e_getR opsS 12 34 139), (139, e_iload 4 141), (141, e_iconst (1) 142), (142, e_bin aSub 143), (143, e_ald opsS 100 144), (144, e_un aNeg 145), (145, e_ast opsS 100 (fun v => v) 146), (146, e_goto 182), (149, e_iinc 4 (-1) 152), (152, e_aload 0 153), (153, e_getR opsS 12 34 156), (156, e_iload 4 158), (158, e_iconst (1) 159), (159, e_bin aSub 160), (160, e_iload 6 162), (162, e_aload 0 163), (163, e_getR opsS 12 34 166), (166, e_iload 4 168), (168, e_iconst (1) 169), (169, e_bin aSub 170), (170, e_ald opsS 100 171), (171, e_aload 0 172), (172, e_getR opsS 12 34 175), (175, e_iload 4 177), (177, e_ald opsS 100 178), (178, e_callS cal 180 3 181), (181, e_ast opsS 100 (fun v => v) 182), (182, e_iinc 5 (1) 185), (185, e_goto 12), (188, e_aload 0 189), (189, e_getR opsS 12 34 192), (192, e_iconst (0) 193), (193, e_ald opsS 100 194), (194, e_iret)]
set_option maxRecDepth 100000 in
set_option maxHeartbeats 4000000 in
theorem tk_X12_worked {ad0 : Nat → Nat} {G : Gm} {A : Nat → Prop} {p : Program} {l : Launch} {e : Env} {R : Room} {s0 : State} {m : MethodId} {args : Array Value} {below : List Frame} {meth : Method} {c : Code} {Q : State → Prop} {ρ : Type} {ret : Option Value → SS → Option ρ} {r : ρ} (X : Cx G A RX12 cX12_worked 7 p s0 m args c) {D' : Nat} {cal : Cal SS} (hcal : calOK l G opsS D' cal) (hRm : ∀ k, k ≤ 21 → D' + 1 ≤ R.frames ∧ 8 + (k + 11) + 40 * D' ≤ R.locals) (hret : RetK G A cX12_worked 113 6344 ad0 p l e R s0 m args below meth c Q opsS ret r .ireturn okI) : ∀ q ∈ tb_X12_worked cal, OKi G A 7 113 6344 ad0 p l e R s0 m args below meth c Q opsS ret r q.1 q.2 :=
    okc (ok_iconst (n := 0) X (by decide +kernel) rfl rfl) (
    okc (ok_istore X (by decide +kernel) rfl) (
    okc (ok_sipush (n := 130) X (by decide +kernel) rfl rfl) (
    okc (ok_iload_n (j := 1) X (by decide +kernel) rfl rfl) (
    okc (ok_imul X (by decide +kernel) rfl) (
    okc (ok_iload_n (j := 2) X (by decide +kernel) rfl rfl) (
    okc (ok_iadd X (by decide +kernel) rfl) (
    okc (ok_istore X (by decide +kernel) rfl) (
    okc (ok_iload X (by decide +kernel) rfl) (
    okc (ok_sipush (n := 130) X (by decide +kernel) rfl rfl) (
    okc (ok_iload_n (j := 1) X (by decide +kernel) rfl rfl) (
    okc (ok_imul X (by decide +kernel) rfl) (
    okc (ok_iload_n (j := 3) X (by decide +kernel) rfl rfl) (
    okc (ok_iadd X (by decide +kernel) rfl) (
    okc (ok_cge (off := 167) X (by decide +kernel) (by decide) rfl) (
    okc (ok_aload_n (j := 0) X (by decide +kernel) rfl rfl) (
    okc (ok_getR (ci := 12) (kf := 28) (idx := 56) (C := RX12) (T := TX12) (N := 63) X rfl (by decide) inX12 (by decide) wf_X12_56 (fun _ _ _ => rfl) (by decide +kernel) rfl) (
    okc (ok_iload X (by decide +kernel) rfl) (
    okc (ok_bald X (by decide +kernel) rfl) (
    okc (ok_istore X (by decide +kernel) rfl) (
    okc (ok_iload X (by decide +kernel) rfl) (
    okc (ok_iconst (n := 1) X (by decide +kernel) rfl rfl) (
    okc (ok_ceq (off := 9) X (by decide +kernel) (by decide) rfl) (
    okc (ok_iload X (by decide +kernel) rfl) (
    okc (ok_iconst (n := 2) X (by decide +kernel) rfl rfl) (
    okc (ok_cne (off := 44) X (by decide +kernel) (by decide) rfl) (
    okc (ok_aload_n (j := 0) X (by decide +kernel) rfl rfl) (
    okc (ok_getR (ci := 12) (kf := 34) (idx := 75) (C := RX12) (T := TX12) (N := 63) X rfl (by decide) inX12 (by decide) wf_X12_75 (fun _ _ _ => rfl) (by decide +kernel) rfl) (
    okc (ok_iload X (by decide +kernel) rfl) (
    okc (ok_iload X (by decide +kernel) rfl) (
    okc (ok_iconst (n := 1) X (by decide +kernel) rfl rfl) (
    okc (ok_cne (off := 13) X (by decide +kernel) (by decide) rfl) (
    okc (ok_aload_n (j := 0) X (by decide +kernel) rfl rfl) (
    okc (ok_getR (ci := 12) (kf := 29) (idx := 59) (C := RX12) (T := TX12) (N := 63) X rfl (by decide) inX12 (by decide) wf_X12_59 (fun _ _ _ => rfl) (by decide +kernel) rfl) (
    okc (ok_iload X (by decide +kernel) rfl) (
    okc (ok_iald X (by decide +kernel) rfl) (
    okc (ok_goto (off := 15) X (by decide +kernel) (by decide)) (
    okc (ok_aload_n (j := 0) X (by decide +kernel) rfl rfl) (
    okc (ok_getR (ci := 12) (kf := 33) (idx := 72) (C := RX12) (T := TX12) (N := 63) X rfl (by decide) inX12 (by decide) wf_X12_72 (fun _ _ _ => rfl) (by decide +kernel) rfl) (
    okc (ok_aload_n (j := 0) X (by decide +kernel) rfl rfl) (
    okc (ok_getR (ci := 12) (kf := 29) (idx := 59) (C := RX12) (T := TX12) (N := 63) X rfl (by decide) inX12 (by decide) wf_X12_59 (fun _ _ _ => rfl) (by decide +kernel) rfl) (
    okc (ok_iload X (by decide +kernel) rfl) (
    okc (ok_iald X (by decide +kernel) rfl) (
    okc (ok_iald X (by decide +kernel) rfl) (
    okc (ok_iast X opsS_ok (by decide +kernel) rfl) (
    okc (ok_iinc (n := 1) X (by decide +kernel) rfl rfl) (
    okc (ok_goto (off := 99) X (by decide +kernel) (by decide)) (
    okc (ok_iload X (by decide +kernel) rfl) (
    okc (ok_iconst (n := 3) X (by decide +kernel) rfl rfl) (
    okc (ok_cne (off := 32) X (by decide +kernel) (by decide) rfl) (
    okc (ok_aload_n (j := 0) X (by decide +kernel) rfl rfl) (
    okc (ok_getR (ci := 12) (kf := 34) (idx := 75) (C := RX12) (T := TX12) (N := 63) X rfl (by decide) inX12 (by decide) wf_X12_75 (fun _ _ _ => rfl) (by decide +kernel) rfl) (
    okc (ok_iload X (by decide +kernel) rfl) (
    okc (ok_iconst (n := 1) X (by decide +kernel) rfl rfl) (
    okc (ok_isub X (by decide +kernel) rfl) (
    okc (ok_aload_n (j := 0) X (by decide +kernel) rfl rfl) (
    okc (ok_getR (ci := 12) (kf := 34) (idx := 75) (C := RX12) (T := TX12) (N := 63) X rfl (by decide) inX12 (by decide) wf_X12_75 (fun _ _ _ => rfl) (by decide +kernel) rfl) (
    okc (ok_iload X (by decide +kernel) rfl) (
    okc (ok_iconst (n := 1) X (by decide +kernel) rfl rfl) (
    okc (ok_isub X (by decide +kernel) rfl) (
    okc (ok_iald X (by decide +kernel) rfl) (
    okc (ok_ifne (off := 7) X (by decide +kernel) (by decide) rfl) (
    okc (ok_iconst (n := 1) X (by decide +kernel) rfl rfl) (
    okc (ok_goto (off := 4) X (by decide +kernel) (by decide)) (
    okc (ok_iconst (n := 0) X (by decide +kernel) rfl rfl) (
    okc (ok_iast X opsS_ok (by decide +kernel) rfl) (
    okc (ok_goto (off := 64) X (by decide +kernel) (by decide)) (
    okc (ok_iload X (by decide +kernel) rfl) (
    okc (ok_iconst (n := 4) X (by decide +kernel) rfl rfl) (
    okc (ok_cne (off := 25) X (by decide +kernel) (by decide) rfl) (
    okc (ok_aload_n (j := 0) X (by decide +kernel) rfl rfl) (
    okc (ok_getR (ci := 12) (kf := 34) (idx := 75) (C := RX12) (T := TX12) (N := 63) X rfl (by decide) inX12 (by decide) wf_X12_75 (fun _ _ _ => rfl) (by decide +kernel) rfl) (
    okc (ok_iload X (by decide +kernel) rfl) (
    okc (ok_iconst (n := 1) X (by decide +kernel) rfl rfl) (
    okc (ok_isub X (by decide +kernel) rfl) (
    okc (ok_aload_n (j := 0) X (by decide +kernel) rfl rfl) (
    okc (ok_getR (ci := 12) (kf := 34) (idx := 75) (C := RX12) (T := TX12) (N := 63) X rfl (by decide) inX12 (by decide) wf_X12_75 (fun _ _ _ => rfl) (by decide +kernel) rfl) (
    okc (ok_iload X (by decide +kernel) rfl) (
    okc (ok_iconst (n := 1) X (by decide +kernel) rfl rfl) (
    okc (ok_isub X (by decide +kernel) rfl) (
    okc (ok_iald X (by decide +kernel) rfl) (
    okc (ok_ineg X (by decide +kernel) rfl) (
    okc (ok_iast X opsS_ok (by decide +kernel) rfl) (
    okc (ok_goto (off := 36) X (by decide +kernel) (by decide)) (
    okc (ok_iinc (n := -1) X (by decide +kernel) rfl rfl) (
    okc (ok_aload_n (j := 0) X (by decide +kernel) rfl rfl) (
    okc (ok_getR (ci := 12) (kf := 34) (idx := 75) (C := RX12) (T := TX12) (N := 63) X rfl (by decide) inX12 (by decide) wf_X12_75 (fun _ _ _ => rfl) (by decide +kernel) rfl) (
    okc (ok_iload X (by decide +kernel) rfl) (
    okc (ok_iconst (n := 1) X (by decide +kernel) rfl rfl) (
    okc (ok_isub X (by decide +kernel) rfl) (
    okc (ok_iload X (by decide +kernel) rfl) (
    okc (ok_aload_n (j := 0) X (by decide +kernel) rfl rfl) (
    okc (ok_getR (ci := 12) (kf := 34) (idx := 75) (C := RX12) (T := TX12) (N := 63) X rfl (by decide) inX12 (by decide) wf_X12_75 (fun _ _ _ => rfl) (by decide +kernel) rfl) (
    okc (ok_iload X (by decide +kernel) rfl) (
    okc (ok_iconst (n := 1) X (by decide +kernel) rfl rfl) (
    okc (ok_isub X (by decide +kernel) rfl) (
    okc (ok_iald X (by decide +kernel) rfl) (
    okc (ok_aload_n (j := 0) X (by decide +kernel) rfl rfl) (
    okc (ok_getR (ci := 12) (kf := 34) (idx := 75) (C := RX12) (T := TX12) (N := 63) X rfl (by decide) inX12 (by decide) wf_X12_75 (fun _ _ _ => rfl) (by decide +kernel) rfl) (
    okc (ok_iload X (by decide +kernel) rfl) (
    okc (ok_iald X (by decide +kernel) rfl) (
    okc (ok_callS (Y := (yX12_twoOf, cX12_twoOf, 3, (some .int))) X hcal opsS_n md_X12_twoOf wc_X12_twoOf wl_X12_242 wi_X12 ws_X12_twoOf (by decide +kernel) (hRm 3 (by decide)) (by decide +kernel) rfl) (
    okc (ok_iast X opsS_ok (by decide +kernel) rfl) (
    okc (ok_iinc (n := 1) X (by decide +kernel) rfl rfl) (
    okc (ok_goto (off := -173) X (by decide +kernel) (by decide)) (
    okc (ok_aload_n (j := 0) X (by decide +kernel) rfl rfl) (
    okc (ok_getR (ci := 12) (kf := 34) (idx := 75) (C := RX12) (T := TX12) (N := 63) X rfl (by decide) inX12 (by decide) wf_X12_75 (fun _ _ _ => rfl) (by decide +kernel) rfl) (
    okc (ok_iconst (n := 0) X (by decide +kernel) rfl rfl) (
    okc (ok_iald X (by decide +kernel) rfl) (
    okc (ok_iret hret (by decide +kernel)) (
    okn))))))))))))))))))))))))))))))))))))))))))))))))))))))))))))))))))))))))))))))))))))))))))))))))))))))))))))))
noncomputable def es_X12_worked  : List (Nat × En) := [(180, en_X12_twoOf)]
noncomputable def ka_X12_worked_12   (n : Nat) : Kn SS (Int32 × SS) := fun pc ls st s => bif Nat.beq pc 12 then (match ls, st with
    | [some y0, some (.int x1), _, some (.int x3), some (.int x4), some (.int x5), _], [] => (gd (veq y0 (.ref 74)) (F_X12_worked_12 n x1 x3 x4 x5 s))
    | _, _ => none) else (none)
set_option maxRecDepth 100000 in
set_option maxHeartbeats 4000000 in
theorem eq_X12_worked_12    (n : Nat) (x1 : Int32) (x3 : Int32) (x4 : Int32) (x5 : Int32) (s : SS) : ex (tb_X12_worked (calE (es_X12_worked))) rI [12] (ka_X12_worked_12   n) 112 12 [some (.ref 74), some (.int x1), none, some (.int x3), some (.int x4), some (.int x5), none] [] s = F_X12_worked_12   (n + 1) x1 x3 x4 x5 s := by
  rfl
set_option maxRecDepth 100000 in
set_option maxHeartbeats 4000000 in
theorem gd_X12_worked_12 {ad0 : Nat → Nat} {G : Gm} {A : Nat → Prop} {p : Program} {l : Launch} {e : Env} {R : Room} {s0 : State} {m : MethodId} {args : Array Value} {below : List Frame} {meth : Method} {c : Code} {Q : State → Prop} {r : (Int32 × SS)}   (hT : ∀ q ∈ tb_X12_worked (calE (es_X12_worked)), OKi G A 7 113 6344 ad0 p l e R s0 m args below meth c Q opsS rI r q.1 q.2)   : ∀ (n : Nat) (x1 : Int32) (x3 : Int32) (x4 : Int32) (x5 : Int32) (s : SS), F_X12_worked_12   n x1 x3 x4 x5 s = some r → Gd G A 7 113 6344 ad0 p l e R s0 m args below meth c Q opsS 12 [some (.ref 74), some (.int x1), none, some (.int x3), some (.int x4), some (.int x5), none] [] s := by
  intro n
  induction n with
  | zero =>
    intro x1 x3 x4 x5 s hh
    exact absurd (show (none : Option (Int32 × SS)) = some r from hh) (by simp)
  | succ n ih =>
    intro x1 x3 x4 x5 s hh
    rw [← eq_X12_worked_12    n x1 x3 x4 x5 s] at hh
    refine ex_good hT (fun pc' ls' st' x' hh => ?_) 112 12 _ [] s hh
    unfold ka_X12_worked_12 at hh
    cases hb : Nat.beq pc' 12 with
    | true =>
      rw [hb] at hh
      have e9 := beq1 hb
      subst e9
      simp only [cond_true] at hh
      split at hh
      · obtain ⟨g0, hh1⟩ := gd_some hh
        have e0 := veq_of g0
        subst e0
        exact Gd.wk (ih _ _ _ _ _ hh1) (Lle.eq (Lle.eq (Lle.no (Lle.eq (Lle.eq (Lle.eq (Lle.no Lle.nil)))))))
      · cases hh
    | false =>
      rw [hb] at hh
      simp only [cond_false] at hh
      cases hh

noncomputable def ka_X12_worked  : Kn SS (Int32 × SS) := fun pc ls st s => bif Nat.beq pc 12 then (match ls, st with
    | [some y0, some (.int x1), _, some (.int x3), some (.int x4), some (.int x5), _], [] => (gd (veq y0 (.ref 74)) (F_X12_worked_12 fuel0 x1 x3 x4 x5 s))
    | _, _ => none) else (none)
set_option maxRecDepth 100000 in
set_option maxHeartbeats 4000000 in
theorem eq_X12_worked   (a0 : Int32) (a1 : Int32) (a2 : Int32) (s : SS) : ex (tb_X12_worked (calE (es_X12_worked))) rI [12] (ka_X12_worked ) 112 0 [some (.ref 74), some (.int a0), some (.int a1), some (.int a2), none, none, none] [] s = f_X12_worked a0 a1 a2 s := by
  rfl
set_option maxRecDepth 100000 in
set_option maxHeartbeats 4000000 in
theorem run_X12_worked {l : Launch} {G : Gm}   (a0 : Int32) (a1 : Int32) (a2 : Int32) (s : SS) (q : (Int32 × SS)) (h : f_X12_worked a0 a1 a2 s = some q) (D' : Nat) (hD : 1 ≤ D') : RunsM l G (D' + 1) (md 181) (embS s) [.ref 74, .int a0, .int a1, .int a2] (some (.int q.1)) (embS q.2) := by
  rw [md_X12_worked]
  refine runs_I (plainFor_of_name (by decide +kernel)) (Nat.le_of_ble_eq_true rfl) rfl ?_
  intro A p e R s0 m args below meth c Q ad0 hR X hret
  have X : Cx G A RX12 cX12_worked 7 p s0 m args c := X
  have hT := tk_X12_worked X (calE_ok (es := es_X12_worked) (enc (en_X12_twoOf_ok _ (by omega)) (enn))) (rmD rfl hR) hret
  rw [← eq_X12_worked   a0 a1 a2 s] at h
  refine ex_good hT (fun pc' ls' st' x' hh => ?_) 112 0 _ [] s h
  unfold ka_X12_worked at hh
  cases hb : Nat.beq pc' 12 with
  | true =>
    rw [hb] at hh
    have e9 := beq1 hb
    subst e9
    simp only [cond_true] at hh
    split at hh
    · obtain ⟨g0, hh1⟩ := gd_some hh
      have e0 := veq_of g0
      subst e0
      exact Gd.wk (gd_X12_worked_12 hT  _ _ _ _ _ _ hh1) (Lle.eq (Lle.eq (Lle.no (Lle.eq (Lle.eq (Lle.eq (Lle.no Lle.nil)))))))
    · cases hh
  | false =>
    rw [hb] at hh
    simp only [cond_false] at hh
    cases hh

noncomputable def en_X12_worked  : En := fun _ av s k => match av with
  | [.ref r0, .int a0, .int a1, .int a2] => (gd (Nat.beq r0 74) (bI (f_X12_worked a0 a1 a2 s) k))
  | _ => none
set_option maxRecDepth 100000 in
set_option maxHeartbeats 4000000 in
theorem en_X12_worked_ok {l : Launch} {G : Gm} (D : Nat) (hD : 2 ≤ D) : enOK l G D 181 en_X12_worked := by
  intro ρ av x k r h
  unfold en_X12_worked at h
  split at h
  · obtain ⟨g0, h⟩ := gd_some h
    obtain ⟨q, h1, h2⟩ := bind_of h
    have e0 := beq1 g0
    subst e0
    obtain ⟨D', rfl⟩ : ∃ D', D = D' + 1 := ⟨D - 1, by omega⟩
    exact ⟨_, _, h2, run_X12_worked  _ _ _ _ _ h1 D' (by omega)⟩
  · cases h

/-! HatRankModel gives -/
noncomputable def tb_X12_gives (cal : Cal SS) : List (Nat × Ins SS) := [(0, e_iconst (0) 1), (1, e_istore 2 2), (2, e_iconst (61) 4), (4, e_iload 1 5), (5, e_bin aMul 6), (6, e_istore 3 7), (7, e_iload 3 8), (8, e_iconst (61) 10), (10, e_iload 1 11), (11, e_bin aMul 12), (12, e_aload 0 13), (13, e_getR opsS 12 30 16), (16, e_iload 1 17), (17, e_ald opsS 100 18), (18, e_bin aAdd 19), (19, e_cge 78 22), (22, e_aload 0 23), (23, e_getR opsS 12 31 26), (26, e_iload 3 27), (27, e_ald opsS 103 28), (28, e_iload 2 29), (29, e_ceq 47 32), (32, e_aload 0 33), (33, e_iload 1 34), (34, e_iload 2 35), (35, e_aload 0 36), (36, e_getR opsS 12 31 39), (39, e_iload 3 40), (40, e_ald opsS 103 41), (41, e_callV opsS cal 181 3 12 44), (44, e_ifeq 65 47), (47, e_aload 0 48), (48, e_iload 1 49), (49, e_aload 0 50), (50, e_getR opsS 12 31 53), (53, e_iload 3 54), (54, e_ald opsS 103 55), (55, e_aload 0 56), (56, e_getR opsS 12 32 59), (59, e_iload 3 60), (60, e_ald opsS 103 61), (61, e_callV opsS cal 181 3 12 64), (64, e_iret), (65, e_aload 0 66), (66, e_getR opsS 12 32 69), (69, e_iload 3 70), (70, e_ald opsS 103 71), (71, e_istore 2 72), (72, e_iinc 3 (1) 75), (75, e_goto 7), (78, e_iconst (0) 79), (79, e_iret)]
set_option maxRecDepth 100000 in
set_option maxHeartbeats 4000000 in
theorem tk_X12_gives {ad0 : Nat → Nat} {G : Gm} {A : Nat → Prop} {p : Program} {l : Launch} {e : Env} {R : Room} {s0 : State} {m : MethodId} {args : Array Value} {below : List Frame} {meth : Method} {c : Code} {Q : State → Prop} {ρ : Type} {ret : Option Value → SS → Option ρ} {r : ρ} (X : Cx G A RX12 cX12_gives 4 p s0 m args c) {D' : Nat} {cal : Cal SS} (hcal : calOK l G opsS D' cal) (hRm : ∀ k, k ≤ 21 → D' + 1 ≤ R.frames ∧ 8 + (k + 11) + 40 * D' ≤ R.locals) (hret : RetK G A cX12_gives 113 6344 ad0 p l e R s0 m args below meth c Q opsS ret r .ireturn okI) : ∀ q ∈ tb_X12_gives cal, OKi G A 4 113 6344 ad0 p l e R s0 m args below meth c Q opsS ret r q.1 q.2 :=
    okc (ok_iconst (n := 0) X (by decide +kernel) rfl rfl) (
    okc (ok_istore_n (j := 2) X (by decide +kernel) rfl rfl) (
    okc (ok_bipush (n := 61) X (by decide +kernel) rfl rfl) (
    okc (ok_iload_n (j := 1) X (by decide +kernel) rfl rfl) (
    okc (ok_imul X (by decide +kernel) rfl) (
    okc (ok_istore_n (j := 3) X (by decide +kernel) rfl rfl) (
    okc (ok_iload_n (j := 3) X (by decide +kernel) rfl rfl) (
    okc (ok_bipush (n := 61) X (by decide +kernel) rfl rfl) (
    okc (ok_iload_n (j := 1) X (by decide +kernel) rfl rfl) (
    okc (ok_imul X (by decide +kernel) rfl) (
    okc (ok_aload_n (j := 0) X (by decide +kernel) rfl rfl) (
    okc (ok_getR (ci := 12) (kf := 30) (idx := 62) (C := RX12) (T := TX12) (N := 63) X rfl (by decide) inX12 (by decide) wf_X12_62 (fun _ _ _ => rfl) (by decide +kernel) rfl) (
    okc (ok_iload_n (j := 1) X (by decide +kernel) rfl rfl) (
    okc (ok_iald X (by decide +kernel) rfl) (
    okc (ok_iadd X (by decide +kernel) rfl) (
    okc (ok_cge (off := 59) X (by decide +kernel) (by decide) rfl) (
    okc (ok_aload_n (j := 0) X (by decide +kernel) rfl rfl) (
    okc (ok_getR (ci := 12) (kf := 31) (idx := 65) (C := RX12) (T := TX12) (N := 63) X rfl (by decide) inX12 (by decide) wf_X12_65 (fun _ _ _ => rfl) (by decide +kernel) rfl) (
    okc (ok_iload_n (j := 3) X (by decide +kernel) rfl rfl) (
    okc (ok_sald X (by decide +kernel) rfl) (
    okc (ok_iload_n (j := 2) X (by decide +kernel) rfl rfl) (
    okc (ok_ceq (off := 18) X (by decide +kernel) (by decide) rfl) (
    okc (ok_aload_n (j := 0) X (by decide +kernel) rfl rfl) (
    okc (ok_iload_n (j := 1) X (by decide +kernel) rfl rfl) (
    okc (ok_iload_n (j := 2) X (by decide +kernel) rfl rfl) (
    okc (ok_aload_n (j := 0) X (by decide +kernel) rfl rfl) (
    okc (ok_getR (ci := 12) (kf := 31) (idx := 65) (C := RX12) (T := TX12) (N := 63) X rfl (by decide) inX12 (by decide) wf_X12_65 (fun _ _ _ => rfl) (by decide +kernel) rfl) (
    okc (ok_iload_n (j := 3) X (by decide +kernel) rfl rfl) (
    okc (ok_sald X (by decide +kernel) rfl) (
    okc (ok_callV (ci := 12) (C := RX12) (T := TX12) (N := 63) (Y := (yX12_worked, cX12_worked, 7, (some .int))) X hcal opsS_n md_X12_worked rfl (by decide) rfl wc_X12_worked wl_X12_245 wi_X12 wm_X12_worked wv_X12_worked (by decide +kernel) (hRm 7 (by decide)) (by decide +kernel) rfl) (
    okc (ok_ifeq (off := 21) X (by decide +kernel) (by decide) rfl) (
    okc (ok_aload_n (j := 0) X (by decide +kernel) rfl rfl) (
    okc (ok_iload_n (j := 1) X (by decide +kernel) rfl rfl) (
    okc (ok_aload_n (j := 0) X (by decide +kernel) rfl rfl) (
    okc (ok_getR (ci := 12) (kf := 31) (idx := 65) (C := RX12) (T := TX12) (N := 63) X rfl (by decide) inX12 (by decide) wf_X12_65 (fun _ _ _ => rfl) (by decide +kernel) rfl) (
    okc (ok_iload_n (j := 3) X (by decide +kernel) rfl rfl) (
    okc (ok_sald X (by decide +kernel) rfl) (
    okc (ok_aload_n (j := 0) X (by decide +kernel) rfl rfl) (
    okc (ok_getR (ci := 12) (kf := 32) (idx := 69) (C := RX12) (T := TX12) (N := 63) X rfl (by decide) inX12 (by decide) wf_X12_69 (fun _ _ _ => rfl) (by decide +kernel) rfl) (
    okc (ok_iload_n (j := 3) X (by decide +kernel) rfl rfl) (
    okc (ok_sald X (by decide +kernel) rfl) (
    okc (ok_callV (ci := 12) (C := RX12) (T := TX12) (N := 63) (Y := (yX12_worked, cX12_worked, 7, (some .int))) X hcal opsS_n md_X12_worked rfl (by decide) rfl wc_X12_worked wl_X12_245 wi_X12 wm_X12_worked wv_X12_worked (by decide +kernel) (hRm 7 (by decide)) (by decide +kernel) rfl) (
    okc (ok_iret hret (by decide +kernel)) (
    okc (ok_aload_n (j := 0) X (by decide +kernel) rfl rfl) (
    okc (ok_getR (ci := 12) (kf := 32) (idx := 69) (C := RX12) (T := TX12) (N := 63) X rfl (by decide) inX12 (by decide) wf_X12_69 (fun _ _ _ => rfl) (by decide +kernel) rfl) (
    okc (ok_iload_n (j := 3) X (by decide +kernel) rfl rfl) (
    okc (ok_sald X (by decide +kernel) rfl) (
    okc (ok_istore_n (j := 2) X (by decide +kernel) rfl rfl) (
    okc (ok_iinc (n := 1) X (by decide +kernel) rfl rfl) (
    okc (ok_goto (off := -68) X (by decide +kernel) (by decide)) (
    okc (ok_iconst (n := 0) X (by decide +kernel) rfl rfl) (
    okc (ok_iret hret (by decide +kernel)) (
    okn))))))))))))))))))))))))))))))))))))))))))))))))))))
noncomputable def es_X12_gives  : List (Nat × En) := [(181, en_X12_worked)]
noncomputable def ka_X12_gives_7   (n : Nat) : Kn SS (Int32 × SS) := fun pc ls st s => bif Nat.beq pc 7 then (match ls, st with
    | [some y0, some (.int x1), some (.int x2), some (.int x3)], [] => (gd (veq y0 (.ref 74)) (F_X12_gives_7 n x1 x2 x3 s))
    | _, _ => none) else (none)
set_option maxRecDepth 100000 in
set_option maxHeartbeats 4000000 in
theorem eq_X12_gives_7    (n : Nat) (x1 : Int32) (x2 : Int32) (x3 : Int32) (s : SS) : ex (tb_X12_gives (calE (es_X12_gives))) rI [7] (ka_X12_gives_7   n) 54 7 [some (.ref 74), some (.int x1), some (.int x2), some (.int x3)] [] s = F_X12_gives_7   (n + 1) x1 x2 x3 s := by
  rfl
set_option maxRecDepth 100000 in
set_option maxHeartbeats 4000000 in
theorem gd_X12_gives_7 {ad0 : Nat → Nat} {G : Gm} {A : Nat → Prop} {p : Program} {l : Launch} {e : Env} {R : Room} {s0 : State} {m : MethodId} {args : Array Value} {below : List Frame} {meth : Method} {c : Code} {Q : State → Prop} {r : (Int32 × SS)}   (hT : ∀ q ∈ tb_X12_gives (calE (es_X12_gives)), OKi G A 4 113 6344 ad0 p l e R s0 m args below meth c Q opsS rI r q.1 q.2)   : ∀ (n : Nat) (x1 : Int32) (x2 : Int32) (x3 : Int32) (s : SS), F_X12_gives_7   n x1 x2 x3 s = some r → Gd G A 4 113 6344 ad0 p l e R s0 m args below meth c Q opsS 7 [some (.ref 74), some (.int x1), some (.int x2), some (.int x3)] [] s := by
  intro n
  induction n with
  | zero =>
    intro x1 x2 x3 s hh
    exact absurd (show (none : Option (Int32 × SS)) = some r from hh) (by simp)
  | succ n ih =>
    intro x1 x2 x3 s hh
    rw [← eq_X12_gives_7    n x1 x2 x3 s] at hh
    refine ex_good hT (fun pc' ls' st' x' hh => ?_) 54 7 _ [] s hh
    unfold ka_X12_gives_7 at hh
    cases hb : Nat.beq pc' 7 with
    | true =>
      rw [hb] at hh
      have e9 := beq1 hb
      subst e9
      simp only [cond_true] at hh
      split at hh
      · obtain ⟨g0, hh1⟩ := gd_some hh
        have e0 := veq_of g0
        subst e0
        exact Gd.wk (ih _ _ _ _ hh1) (Lle.eq (Lle.eq (Lle.eq (Lle.eq Lle.nil))))
      · cases hh
    | false =>
      rw [hb] at hh
      simp only [cond_false] at hh
      cases hh

noncomputable def ka_X12_gives  : Kn SS (Int32 × SS) := fun pc ls st s => bif Nat.beq pc 7 then (match ls, st with
    | [some y0, some (.int x1), some (.int x2), some (.int x3)], [] => (gd (veq y0 (.ref 74)) (F_X12_gives_7 fuel0 x1 x2 x3 s))
    | _, _ => none) else (none)
set_option maxRecDepth 100000 in
set_option maxHeartbeats 4000000 in
theorem eq_X12_gives   (a0 : Int32) (s : SS) : ex (tb_X12_gives (calE (es_X12_gives))) rI [7] (ka_X12_gives ) 54 0 [some (.ref 74), some (.int a0), none, none] [] s = f_X12_gives a0 s := by
  rfl
set_option maxRecDepth 100000 in
set_option maxHeartbeats 4000000 in
theorem run_X12_gives {l : Launch} {G : Gm}   (a0 : Int32) (s : SS) (q : (Int32 × SS)) (h : f_X12_gives a0 s = some q) (D' : Nat) (hD : 2 ≤ D') : RunsM l G (D' + 1) (md 182) (embS s) [.ref 74, .int a0] (some (.int q.1)) (embS q.2) := by
  rw [md_X12_gives]
  refine runs_I (plainFor_of_name (by decide +kernel)) (Nat.le_of_ble_eq_true rfl) rfl ?_
  intro A p e R s0 m args below meth c Q ad0 hR X hret
  have X : Cx G A RX12 cX12_gives 4 p s0 m args c := X
  have hT := tk_X12_gives X (calE_ok (es := es_X12_gives) (enc (en_X12_worked_ok _ (by omega)) (enn))) (rmD rfl hR) hret
  rw [← eq_X12_gives   a0 s] at h
  refine ex_good hT (fun pc' ls' st' x' hh => ?_) 54 0 _ [] s h
  unfold ka_X12_gives at hh
  cases hb : Nat.beq pc' 7 with
  | true =>
    rw [hb] at hh
    have e9 := beq1 hb
    subst e9
    simp only [cond_true] at hh
    split at hh
    · obtain ⟨g0, hh1⟩ := gd_some hh
      have e0 := veq_of g0
      subst e0
      exact Gd.wk (gd_X12_gives_7 hT  _ _ _ _ _ hh1) (Lle.eq (Lle.eq (Lle.eq (Lle.eq Lle.nil))))
    · cases hh
  | false =>
    rw [hb] at hh
    simp only [cond_false] at hh
    cases hh

noncomputable def en_X12_gives  : En := fun _ av s k => match av with
  | [.ref r0, .int a0] => (gd (Nat.beq r0 74) (bI (f_X12_gives a0 s) k))
  | _ => none
set_option maxRecDepth 100000 in
set_option maxHeartbeats 4000000 in
theorem en_X12_gives_ok {l : Launch} {G : Gm} (D : Nat) (hD : 3 ≤ D) : enOK l G D 182 en_X12_gives := by
  intro ρ av x k r h
  unfold en_X12_gives at h
  split at h
  · obtain ⟨g0, h⟩ := gd_some h
    obtain ⟨q, h1, h2⟩ := bind_of h
    have e0 := beq1 g0
    subst e0
    obtain ⟨D', rfl⟩ : ∃ D', D = D' + 1 := ⟨D - 1, by omega⟩
    exact ⟨_, _, h2, run_X12_gives  _ _ _ h1 D' (by omega)⟩
  · cases h

/-! HatRankModel law -/
noncomputable def tb_X12_law (cal : Cal SS) : List (Nat × Ins SS) := [(0, e_aload 0 1), (1, e_iconst (0) 2), (2, e_callV opsS cal 179 1 12 5), (5, e_istore 1 6), (6, e_iload 1 7), (7, e_iflt 15 10), (10, e_iconst (-100) 12), (12, e_iload 1 13), (13, e_bin aSub 14), (14, e_iret), (15, e_aload 0 16), (16, e_iconst (1) 17), (17, e_putZ opsS 12 35 20), (20, e_iconst (1) 21), (21, e_iret)]
set_option maxRecDepth 100000 in
set_option maxHeartbeats 4000000 in
theorem tk_X12_law {ad0 : Nat → Nat} {G : Gm} {A : Nat → Prop} {p : Program} {l : Launch} {e : Env} {R : Room} {s0 : State} {m : MethodId} {args : Array Value} {below : List Frame} {meth : Method} {c : Code} {Q : State → Prop} {ρ : Type} {ret : Option Value → SS → Option ρ} {r : ρ} (X : Cx G A RX12 cX12_law 2 p s0 m args c) {D' : Nat} {cal : Cal SS} (hcal : calOK l G opsS D' cal) (hRm : ∀ k, k ≤ 21 → D' + 1 ≤ R.frames ∧ 8 + (k + 11) + 40 * D' ≤ R.locals) (hret : RetK G A cX12_law 113 6344 ad0 p l e R s0 m args below meth c Q opsS ret r .ireturn okI) : ∀ q ∈ tb_X12_law cal, OKi G A 2 113 6344 ad0 p l e R s0 m args below meth c Q opsS ret r q.1 q.2 :=
    okc (ok_aload_n (j := 0) X (by decide +kernel) rfl rfl) (
    okc (ok_iconst (n := 0) X (by decide +kernel) rfl rfl) (
    okc (ok_callV (ci := 12) (C := RX12) (T := TX12) (N := 63) (Y := (yX12_readText, cX12_readText, 3, (some .int))) X hcal opsS_n md_X12_readText rfl (by decide) rfl wc_X12_readText wl_X12_248 wi_X12 wm_X12_readText wv_X12_readText (by decide +kernel) (hRm 3 (by decide)) (by decide +kernel) rfl) (
    okc (ok_istore_n (j := 1) X (by decide +kernel) rfl rfl) (
    okc (ok_iload_n (j := 1) X (by decide +kernel) rfl rfl) (
    okc (ok_iflt (off := 8) X (by decide +kernel) (by decide) rfl) (
    okc (ok_bipush (n := -100) X (by decide +kernel) rfl rfl) (
    okc (ok_iload_n (j := 1) X (by decide +kernel) rfl rfl) (
    okc (ok_isub X (by decide +kernel) rfl) (
    okc (ok_iret hret (by decide +kernel)) (
    okc (ok_aload_n (j := 0) X (by decide +kernel) rfl rfl) (
    okc (ok_iconst (n := 1) X (by decide +kernel) rfl rfl) (
    okc (ok_putZ (ci := 12) (kf := 35) (idx := 251) (C := RX12) (T := TX12) (N := 63) X opsS_ok rfl (by decide) inX12 tyX12_ok nmX12 (by decide) wf_X12_251 rfl (fun _ _ _ => rfl) (by decide +kernel) (by decide +kernel) rfl) (
    okc (ok_iconst (n := 1) X (by decide +kernel) rfl rfl) (
    okc (ok_iret hret (by decide +kernel)) (
    okn)))))))))))))))
noncomputable def es_X12_law  : List (Nat × En) := [(179, en_X12_readText)]
set_option maxRecDepth 100000 in
set_option maxHeartbeats 4000000 in
theorem eq_X12_law    (s : SS) : ex (tb_X12_law (calE (es_X12_law))) rI [] (fun _ _ _ _ => none) 17 0 [some (.ref 74), none] [] s = f_X12_law  s := by
  rfl
set_option maxRecDepth 100000 in
set_option maxHeartbeats 4000000 in
theorem run_X12_law {l : Launch} {G : Gm}    (s : SS) (q : (Int32 × SS)) (h : f_X12_law  s = some q) (D' : Nat) (hD : 105 ≤ D') : RunsM l G (D' + 1) (md 183) (embS s) [.ref 74] (some (.int q.1)) (embS q.2) := by
  rw [md_X12_law]
  refine runs_I (plainFor_of_name (by decide +kernel)) (Nat.le_of_ble_eq_true rfl) rfl ?_
  intro A p e R s0 m args below meth c Q ad0 hR X hret
  have X : Cx G A RX12 cX12_law 2 p s0 m args c := X
  have hT := tk_X12_law X (calE_ok (es := es_X12_law) (enc (en_X12_readText_ok _ (by omega)) (enn))) (rmD rfl hR) hret
  rw [← eq_X12_law    s] at h
  refine ex_good hT (fun pc' ls' st' x' hh => ?_) 17 0 _ [] s h
  cases hh

noncomputable def en_X12_law  : En := fun _ av s k => match av with
  | [.ref r0] => (gd (Nat.beq r0 74) (bI (f_X12_law  s) k))
  | _ => none
set_option maxRecDepth 100000 in
set_option maxHeartbeats 4000000 in
theorem en_X12_law_ok {l : Launch} {G : Gm} (D : Nat) (hD : 106 ≤ D) : enOK l G D 183 en_X12_law := by
  intro ρ av x k r h
  unfold en_X12_law at h
  split at h
  · obtain ⟨g0, h⟩ := gd_some h
    obtain ⟨q, h1, h2⟩ := bind_of h
    have e0 := beq1 g0
    subst e0
    obtain ⟨D', rfl⟩ : ∃ D', D = D' + 1 := ⟨D - 1, by omega⟩
    exact ⟨_, _, h2, run_X12_law   _ _ h1 D' (by omega)⟩
  · cases h

/-! HatRankModel gustAt -/
noncomputable def tb_X12_gustAt (cal : Cal SS) : List (Nat × Ins SS) := [(0, e_aload 0 1), (1, e_getR opsS 12 2 4), (4, e_iload 2 5), (5, e_ald opsS 100 6), (6, e_aload 0 7), (7, e_getI opsS 12 3 10), (10, e_bin aAdd 11), (11, e_aload 0 12), (12, e_getR opsS 12 5 15), (15, e_iload 1 16), (16, e_ald opsS 100 17), (17, e_bin aSub 18), (18, e_istore 3 19), (19, e_iload 3 20), (20, e_ifge 27 23), (23, e_iconst (0) 24), (24, e_goto 28), (27, e_iload 3 28), (28, e_iret)]
set_option maxRecDepth 100000 in
set_option maxHeartbeats 4000000 in
theorem tk_X12_gustAt {ad0 : Nat → Nat} {G : Gm} {A : Nat → Prop} {p : Program} {l : Launch} {e : Env} {R : Room} {s0 : State} {m : MethodId} {args : Array Value} {below : List Frame} {meth : Method} {c : Code} {Q : State → Prop} {ρ : Type} {ret : Option Value → SS → Option ρ} {r : ρ} (X : Cx G A RX12 cX12_gustAt 4 p s0 m args c) {D' : Nat} {cal : Cal SS} (hcal : calOK l G opsS D' cal) (hRm : ∀ k, k ≤ 21 → D' + 1 ≤ R.frames ∧ 8 + (k + 11) + 40 * D' ≤ R.locals) (hret : RetK G A cX12_gustAt 113 6344 ad0 p l e R s0 m args below meth c Q opsS ret r .ireturn okI) : ∀ q ∈ tb_X12_gustAt cal, OKi G A 4 113 6344 ad0 p l e R s0 m args below meth c Q opsS ret r q.1 q.2 :=
    okc (ok_aload_n (j := 0) X (by decide +kernel) rfl rfl) (
    okc (ok_getR (ci := 12) (kf := 2) (idx := 7) (C := RX12) (T := TX12) (N := 63) X rfl (by decide) inX12 (by decide) wf_X12_7 (fun _ _ _ => rfl) (by decide +kernel) rfl) (
    okc (ok_iload_n (j := 2) X (by decide +kernel) rfl rfl) (
    okc (ok_iald X (by decide +kernel) rfl) (
    okc (ok_aload_n (j := 0) X (by decide +kernel) rfl rfl) (
    okc (ok_getI (ci := 12) (kf := 3) (idx := 255) (C := RX12) (T := TX12) (N := 63) X rfl (by decide) inX12 (by decide) wf_X12_255 (fun _ _ _ => rfl) (by decide +kernel) rfl) (
    okc (ok_iadd X (by decide +kernel) rfl) (
    okc (ok_aload_n (j := 0) X (by decide +kernel) rfl rfl) (
    okc (ok_getR (ci := 12) (kf := 5) (idx := 13) (C := RX12) (T := TX12) (N := 63) X rfl (by decide) inX12 (by decide) wf_X12_13 (fun _ _ _ => rfl) (by decide +kernel) rfl) (
    okc (ok_iload_n (j := 1) X (by decide +kernel) rfl rfl) (
    okc (ok_iald X (by decide +kernel) rfl) (
    okc (ok_isub X (by decide +kernel) rfl) (
    okc (ok_istore_n (j := 3) X (by decide +kernel) rfl rfl) (
    okc (ok_iload_n (j := 3) X (by decide +kernel) rfl rfl) (
    okc (ok_ifge (off := 7) X (by decide +kernel) (by decide) rfl) (
    okc (ok_iconst (n := 0) X (by decide +kernel) rfl rfl) (
    okc (ok_goto (off := 4) X (by decide +kernel) (by decide)) (
    okc (ok_iload_n (j := 3) X (by decide +kernel) rfl rfl) (
    okc (ok_iret hret (by decide +kernel)) (
    okn)))))))))))))))))))
noncomputable def es_X12_gustAt  : List (Nat × En) := []
set_option maxRecDepth 100000 in
set_option maxHeartbeats 4000000 in
theorem eq_X12_gustAt   (a0 : Int32) (a1 : Int32) (s : SS) : ex (tb_X12_gustAt (calE (es_X12_gustAt))) rI [] (fun _ _ _ _ => none) 21 0 [some (.ref 74), some (.int a0), some (.int a1), none] [] s = f_X12_gustAt a0 a1 s := by
  rfl
set_option maxRecDepth 100000 in
set_option maxHeartbeats 4000000 in
theorem run_X12_gustAt {l : Launch} {G : Gm}   (a0 : Int32) (a1 : Int32) (s : SS) (q : (Int32 × SS)) (h : f_X12_gustAt a0 a1 s = some q) (D' : Nat) (hD : 0 ≤ D') : RunsM l G (D' + 1) (md 184) (embS s) [.ref 74, .int a0, .int a1] (some (.int q.1)) (embS q.2) := by
  rw [md_X12_gustAt]
  refine runs_I (plainFor_of_name (by decide +kernel)) (Nat.le_of_ble_eq_true rfl) rfl ?_
  intro A p e R s0 m args below meth c Q ad0 hR X hret
  have X : Cx G A RX12 cX12_gustAt 4 p s0 m args c := X
  have hT := tk_X12_gustAt X (calE_ok (es := es_X12_gustAt) (enn)) (rmD rfl hR) hret
  rw [← eq_X12_gustAt   a0 a1 s] at h
  refine ex_good hT (fun pc' ls' st' x' hh => ?_) 21 0 _ [] s h
  cases hh

noncomputable def en_X12_gustAt  : En := fun _ av s k => match av with
  | [.ref r0, .int a0, .int a1] => (gd (Nat.beq r0 74) (bI (f_X12_gustAt a0 a1 s) k))
  | _ => none
set_option maxRecDepth 100000 in
set_option maxHeartbeats 4000000 in
theorem en_X12_gustAt_ok {l : Launch} {G : Gm} (D : Nat) (hD : 1 ≤ D) : enOK l G D 184 en_X12_gustAt := by
  intro ρ av x k r h
  unfold en_X12_gustAt at h
  split at h
  · obtain ⟨g0, h⟩ := gd_some h
    obtain ⟨q, h1, h2⟩ := bind_of h
    have e0 := beq1 g0
    subst e0
    obtain ⟨D', rfl⟩ : ∃ D', D = D' + 1 := ⟨D - 1, by omega⟩
    exact ⟨_, _, h2, run_X12_gustAt  _ _ _ _ h1 D' (by omega)⟩
  · cases h

/-! HatRankModel think -/
noncomputable def tb_X12_think (cal : Cal SS) : List (Nat × Ins SS) := [(0, e_iconst (0) 1), (1, e_istore 1 2), (2, e_iload 1 3), (3, e_aload 0 4), (4, e_getI opsS 12 11 7), (7, e_cge 47 10), (10, e_aload 0 11), (11, e_getR opsS 12 36 14), (14, e_iload 1 15), (15, e_aload 0 16), (16, e_getR opsS 12 12 19), (19, e_iload 1 20), (20, e_ald opsS 100 21), (21, e_ast opsS 100 (fun v => v) 22), (22, e_aload 0 23), (23, e_getR opsS 12 37 26), (26, e_iload 1 27), (27, e_aload 0 28), (28, e_getR opsS 12 14 31), (31, e_iload 1 32), (32, e_ald opsS 100 33), (33, e_ast opsS 100 (fun v => v) 34), (34, e_aload 0 35), (35, e_getR opsS 12 39 38), (38, e_iload 1 39), (39, e_iload 1 40), (40, e_ast opsS 100 (fun v => v) 41), (41, e_iinc 1 (1) 44), (44, e_goto 2), (47, e_iconst (0) 48), (48, e_istore 1 49), (49, e_iload 1 50), (50, e_aload 0 51), (51, e_getI opsS 12 4 54), (54, e_cge 75 57), (57, e_aload 0 58), (58, e_getR opsS 12 38 61), (61, e_iload 1 62), (62, e_aload 0 63), (63, e_getR opsS 12 7 66), (66, e_iload 1 67), (67, e_ald opsS 100 68), (68, e_ast opsS 100 (fun v => v) 69), (69, e_iinc 1 (1) 72), (72, e_goto 49), (75, e_vret)]
set_option maxRecDepth 100000 in
set_option maxHeartbeats 4000000 in
theorem tk_X12_think {ad0 : Nat → Nat} {G : Gm} {A : Nat → Prop} {p : Program} {l : Launch} {e : Env} {R : Room} {s0 : State} {m : MethodId} {args : Array Value} {below : List Frame} {meth : Method} {c : Code} {Q : State → Prop} {ρ : Type} {ret : Option Value → SS → Option ρ} {r : ρ} (X : Cx G A RX12 cX12_think 2 p s0 m args c) {D' : Nat} {cal : Cal SS} (hcal : calOK l G opsS D' cal) (hRm : ∀ k, k ≤ 21 → D' + 1 ≤ R.frames ∧ 8 + (k + 11) + 40 * D' ≤ R.locals) (hret : RetK G A cX12_think 113 6344 ad0 p l e R s0 m args below meth c Q opsS ret r .return_ okV) : ∀ q ∈ tb_X12_think cal, OKi G A 2 113 6344 ad0 p l e R s0 m args below meth c Q opsS ret r q.1 q.2 :=
    okc (ok_iconst (n := 0) X (by decide +kernel) rfl rfl) (
    okc (ok_istore_n (j := 1) X (by decide +kernel) rfl rfl) (
    okc (ok_iload_n (j := 1) X (by decide +kernel) rfl rfl) (
    okc (ok_aload_n (j := 0) X (by decide +kernel) rfl rfl) (
    okc (ok_getI (ci := 12) (kf := 11) (idx := 138) (C := RX12) (T := TX12) (N := 63) X rfl (by decide) inX12 (by decide) wf_X12_138 (fun _ _ _ => rfl) (by decide +kernel) rfl) (
    okc (ok_cge (off := 40) X (by decide +kernel) (by decide) rfl) (
    okc (ok_aload_n (j := 0) X (by decide +kernel) rfl rfl) (
    okc (ok_getR (ci := 12) (kf := 36) (idx := 78) (C := RX12) (T := TX12) (N := 63) X rfl (by decide) inX12 (by decide) wf_X12_78 (fun _ _ _ => rfl) (by decide +kernel) rfl) (
    okc (ok_iload_n (j := 1) X (by decide +kernel) rfl rfl) (
    okc (ok_aload_n (j := 0) X (by decide +kernel) rfl rfl) (
    okc (ok_getR (ci := 12) (kf := 12) (idx := 28) (C := RX12) (T := TX12) (N := 63) X rfl (by decide) inX12 (by decide) wf_X12_28 (fun _ _ _ => rfl) (by decide +kernel) rfl) (
    okc (ok_iload_n (j := 1) X (by decide +kernel) rfl rfl) (
    okc (ok_iald X (by decide +kernel) rfl) (
    okc (ok_iast X opsS_ok (by decide +kernel) rfl) (
    okc (ok_aload_n (j := 0) X (by decide +kernel) rfl rfl) (
    okc (ok_getR (ci := 12) (kf := 37) (idx := 81) (C := RX12) (T := TX12) (N := 63) X rfl (by decide) inX12 (by decide) wf_X12_81 (fun _ _ _ => rfl) (by decide +kernel) rfl) (
    okc (ok_iload_n (j := 1) X (by decide +kernel) rfl rfl) (
    okc (ok_aload_n (j := 0) X (by decide +kernel) rfl rfl) (
    okc (ok_getR (ci := 12) (kf := 14) (idx := 34) (C := RX12) (T := TX12) (N := 63) X rfl (by decide) inX12 (by decide) wf_X12_34 (fun _ _ _ => rfl) (by decide +kernel) rfl) (
    okc (ok_iload_n (j := 1) X (by decide +kernel) rfl rfl) (
    okc (ok_iald X (by decide +kernel) rfl) (
    okc (ok_iast X opsS_ok (by decide +kernel) rfl) (
    okc (ok_aload_n (j := 0) X (by decide +kernel) rfl rfl) (
    okc (ok_getR (ci := 12) (kf := 39) (idx := 87) (C := RX12) (T := TX12) (N := 63) X rfl (by decide) inX12 (by decide) wf_X12_87 (fun _ _ _ => rfl) (by decide +kernel) rfl) (
    okc (ok_iload_n (j := 1) X (by decide +kernel) rfl rfl) (
    okc (ok_iload_n (j := 1) X (by decide +kernel) rfl rfl) (
    okc (ok_iast X opsS_ok (by decide +kernel) rfl) (
    okc (ok_iinc (n := 1) X (by decide +kernel) rfl rfl) (
    okc (ok_goto (off := -42) X (by decide +kernel) (by decide)) (
    okc (ok_iconst (n := 0) X (by decide +kernel) rfl rfl) (
    okc (ok_istore_n (j := 1) X (by decide +kernel) rfl rfl) (
    okc (ok_iload_n (j := 1) X (by decide +kernel) rfl rfl) (
    okc (ok_aload_n (j := 0) X (by decide +kernel) rfl rfl) (
    okc (ok_getI (ci := 12) (kf := 4) (idx := 131) (C := RX12) (T := TX12) (N := 63) X rfl (by decide) inX12 (by decide) wf_X12_131 (fun _ _ _ => rfl) (by decide +kernel) rfl) (
    okc (ok_cge (off := 21) X (by decide +kernel) (by decide) rfl) (
    okc (ok_aload_n (j := 0) X (by decide +kernel) rfl rfl) (
    okc (ok_getR (ci := 12) (kf := 38) (idx := 84) (C := RX12) (T := TX12) (N := 63) X rfl (by decide) inX12 (by decide) wf_X12_84 (fun _ _ _ => rfl) (by decide +kernel) rfl) (
    okc (ok_iload_n (j := 1) X (by decide +kernel) rfl rfl) (
    okc (ok_aload_n (j := 0) X (by decide +kernel) rfl rfl) (
    okc (ok_getR (ci := 12) (kf := 7) (idx := 19) (C := RX12) (T := TX12) (N := 63) X rfl (by decide) inX12 (by decide) wf_X12_19 (fun _ _ _ => rfl) (by decide +kernel) rfl) (
    okc (ok_iload_n (j := 1) X (by decide +kernel) rfl rfl) (
    okc (ok_iald X (by decide +kernel) rfl) (
    okc (ok_iast X opsS_ok (by decide +kernel) rfl) (
    okc (ok_iinc (n := 1) X (by decide +kernel) rfl rfl) (
    okc (ok_goto (off := -23) X (by decide +kernel) (by decide)) (
    okc (ok_vret hret (by decide +kernel)) (
    okn))))))))))))))))))))))))))))))))))))))))))))))
noncomputable def es_X12_think  : List (Nat × En) := []
noncomputable def ka_X12_think_49   (n : Nat) : Kn SS SS := fun pc ls st s => bif Nat.beq pc 49 then (match ls, st with
    | [some y0, some (.int x1)], [] => (gd (veq y0 (.ref 74)) (F_X12_think_49 n x1 s))
    | _, _ => none) else (none)
set_option maxRecDepth 100000 in
set_option maxHeartbeats 4000000 in
theorem eq_X12_think_49    (n : Nat) (x1 : Int32) (s : SS) : ex (tb_X12_think (calE (es_X12_think))) rV [2, 49] (ka_X12_think_49   n) 48 49 [some (.ref 74), some (.int x1)] [] s = F_X12_think_49   (n + 1) x1 s := by
  rfl
noncomputable def ka_X12_think_2   (n : Nat) : Kn SS SS := fun pc ls st s => bif Nat.beq pc 2 then (match ls, st with
    | [some y0, some (.int x1)], [] => (gd (veq y0 (.ref 74)) (F_X12_think_2 n x1 s))
    | _, _ => none) else (bif Nat.beq pc 49 then (match ls, st with
    | [some y0, some (.int x1)], [] => (gd (veq y0 (.ref 74)) (F_X12_think_49 fuel0 x1 s))
    | _, _ => none) else (none))
set_option maxRecDepth 100000 in
set_option maxHeartbeats 4000000 in
theorem eq_X12_think_2    (n : Nat) (x1 : Int32) (s : SS) : ex (tb_X12_think (calE (es_X12_think))) rV [2, 49] (ka_X12_think_2   n) 48 2 [some (.ref 74), some (.int x1)] [] s = F_X12_think_2   (n + 1) x1 s := by
  rfl
set_option maxRecDepth 100000 in
set_option maxHeartbeats 4000000 in
theorem gd_X12_think_49 {ad0 : Nat → Nat} {G : Gm} {A : Nat → Prop} {p : Program} {l : Launch} {e : Env} {R : Room} {s0 : State} {m : MethodId} {args : Array Value} {below : List Frame} {meth : Method} {c : Code} {Q : State → Prop} {r : SS}   (hT : ∀ q ∈ tb_X12_think (calE (es_X12_think)), OKi G A 2 113 6344 ad0 p l e R s0 m args below meth c Q opsS rV r q.1 q.2)   : ∀ (n : Nat) (x1 : Int32) (s : SS), F_X12_think_49   n x1 s = some r → Gd G A 2 113 6344 ad0 p l e R s0 m args below meth c Q opsS 49 [some (.ref 74), some (.int x1)] [] s := by
  intro n
  induction n with
  | zero =>
    intro x1 s hh
    exact absurd (show (none : Option SS) = some r from hh) (by simp)
  | succ n ih =>
    intro x1 s hh
    rw [← eq_X12_think_49    n x1 s] at hh
    refine ex_good hT (fun pc' ls' st' x' hh => ?_) 48 49 _ [] s hh
    unfold ka_X12_think_49 at hh
    cases hb : Nat.beq pc' 49 with
    | true =>
      rw [hb] at hh
      have e9 := beq1 hb
      subst e9
      simp only [cond_true] at hh
      split at hh
      · obtain ⟨g0, hh1⟩ := gd_some hh
        have e0 := veq_of g0
        subst e0
        exact Gd.wk (ih _ _ hh1) (Lle.eq (Lle.eq Lle.nil))
      · cases hh
    | false =>
      rw [hb] at hh
      simp only [cond_false] at hh
      cases hh

set_option maxRecDepth 100000 in
set_option maxHeartbeats 4000000 in
theorem gd_X12_think_2 {ad0 : Nat → Nat} {G : Gm} {A : Nat → Prop} {p : Program} {l : Launch} {e : Env} {R : Room} {s0 : State} {m : MethodId} {args : Array Value} {below : List Frame} {meth : Method} {c : Code} {Q : State → Prop} {r : SS}   (hT : ∀ q ∈ tb_X12_think (calE (es_X12_think)), OKi G A 2 113 6344 ad0 p l e R s0 m args below meth c Q opsS rV r q.1 q.2)   : ∀ (n : Nat) (x1 : Int32) (s : SS), F_X12_think_2   n x1 s = some r → Gd G A 2 113 6344 ad0 p l e R s0 m args below meth c Q opsS 2 [some (.ref 74), some (.int x1)] [] s := by
  intro n
  induction n with
  | zero =>
    intro x1 s hh
    exact absurd (show (none : Option SS) = some r from hh) (by simp)
  | succ n ih =>
    intro x1 s hh
    rw [← eq_X12_think_2    n x1 s] at hh
    refine ex_good hT (fun pc' ls' st' x' hh => ?_) 48 2 _ [] s hh
    unfold ka_X12_think_2 at hh
    cases hb : Nat.beq pc' 2 with
    | true =>
      rw [hb] at hh
      have e9 := beq1 hb
      subst e9
      simp only [cond_true] at hh
      split at hh
      · obtain ⟨g0, hh1⟩ := gd_some hh
        have e0 := veq_of g0
        subst e0
        exact Gd.wk (ih _ _ hh1) (Lle.eq (Lle.eq Lle.nil))
      · cases hh
    | false =>
      rw [hb] at hh
      simp only [cond_false] at hh
      cases hb : Nat.beq pc' 49 with
      | true =>
        rw [hb] at hh
        have e9 := beq1 hb
        subst e9
        simp only [cond_true] at hh
        split at hh
        · obtain ⟨g0, hh1⟩ := gd_some hh
          have e0 := veq_of g0
          subst e0
          exact Gd.wk (gd_X12_think_49 hT   _ _ _ hh1) (Lle.eq (Lle.eq Lle.nil))
        · cases hh
      | false =>
        rw [hb] at hh
        simp only [cond_false] at hh
        cases hh

noncomputable def ka_X12_think  : Kn SS SS := fun pc ls st s => bif Nat.beq pc 2 then (match ls, st with
    | [some y0, some (.int x1)], [] => (gd (veq y0 (.ref 74)) (F_X12_think_2 fuel0 x1 s))
    | _, _ => none) else (none)
set_option maxRecDepth 100000 in
set_option maxHeartbeats 4000000 in
theorem eq_X12_think    (s : SS) : ex (tb_X12_think (calE (es_X12_think))) rV [2, 49] (ka_X12_think ) 48 0 [some (.ref 74), none] [] s = f_X12_think  s := by
  rfl
set_option maxRecDepth 100000 in
set_option maxHeartbeats 4000000 in
theorem run_X12_think {l : Launch} {G : Gm}    (s : SS) (q : SS) (h : f_X12_think  s = some q) (D' : Nat) (hD : 0 ≤ D') : RunsM l G (D' + 1) (md 185) (embS s) [.ref 74] none (embS q) := by
  rw [md_X12_think]
  refine runs_V (plainFor_of_name (by decide +kernel)) (Nat.le_of_ble_eq_true rfl) rfl ?_
  intro A p e R s0 m args below meth c Q ad0 hR X hret
  have X : Cx G A RX12 cX12_think 2 p s0 m args c := X
  have hT := tk_X12_think X (calE_ok (es := es_X12_think) (enn)) (rmD rfl hR) hret
  rw [← eq_X12_think    s] at h
  refine ex_good hT (fun pc' ls' st' x' hh => ?_) 48 0 _ [] s h
  unfold ka_X12_think at hh
  cases hb : Nat.beq pc' 2 with
  | true =>
    rw [hb] at hh
    have e9 := beq1 hb
    subst e9
    simp only [cond_true] at hh
    split at hh
    · obtain ⟨g0, hh1⟩ := gd_some hh
      have e0 := veq_of g0
      subst e0
      exact Gd.wk (gd_X12_think_2 hT  _ _ _ hh1) (Lle.eq (Lle.eq Lle.nil))
    · cases hh
  | false =>
    rw [hb] at hh
    simp only [cond_false] at hh
    cases hh

noncomputable def en_X12_think  : En := fun _ av s k => match av with
  | [.ref r0] => (gd (Nat.beq r0 74) (bV (f_X12_think  s) k))
  | _ => none
set_option maxRecDepth 100000 in
set_option maxHeartbeats 4000000 in
theorem en_X12_think_ok {l : Launch} {G : Gm} (D : Nat) (hD : 1 ≤ D) : enOK l G D 185 en_X12_think := by
  intro ρ av x k r h
  unfold en_X12_think at h
  split at h
  · obtain ⟨g0, h⟩ := gd_some h
    obtain ⟨q, h1, h2⟩ := bind_of h
    have e0 := beq1 g0
    subst e0
    obtain ⟨D', rfl⟩ : ∃ D', D = D' + 1 := ⟨D - 1, by omega⟩
    exact ⟨_, _, h2, run_X12_think   _ _ h1 D' (by omega)⟩
  · cases h

/-! HatRankModel fallsBy -/
noncomputable def tb_X12_fallsBy (cal : Cal SS) : List (Nat × Ins SS) := [(0, e_aload 0 1), (1, e_getR opsS 12 36 4), (4, e_iload 1 5), (5, e_ald opsS 100 6), (6, e_istore 5 8), (8, e_iload 5 10), (10, e_ifne 15 13), (13, e_iconst (0) 14), (14, e_iret), (15, e_aload 0 16), (16, e_iload 3 17), (17, e_iload 2 18), (18, e_callV opsS cal 184 2 12 21), (21, e_iload 5 23), (23, e_bin aAdd 24), (24, e_iload 4 26), (26, e_bin aSub 27), (27, e_istore 6 29), (29, e_aload 0 30), (30, e_getI opsS 12 35 33), (33, e_ifeq 134 36), (36, e_iconst (0) 37), (37, e_istore 7 39), (39, e_iconst (0) 40), (40, e_istore 8 42), (42, e_iload 8 44), (44, e_aload 0 45), (45, e_getI opsS 12 11 48), (48, e_cge 77 51), (51, e_iload 8 53), (53, e_iload 1 54), (54, e_ceq 71 57), (57, e_aload 0 58), (58, e_getR opsS 12 37 61), (61, e_iload 8 63), (63, e_ald opsS 100 64), (64, e_iload 3 65), (65, e_cne 71 68), (68, e_iinc 7 (1) 71), (71, e_iinc 8 (1) 74), (74, e_goto 42), (77, e_aload 0 78), (78, e_getR opsS 12 33 81), (81, e_iconst (0) 82), (82, e_aload 0 83), (83, e_iload 3 84), (84, e_iload 2 85), (85, e_callV opsS cal 184 2 12 88), (88, e_ast opsS 100 (fun v => v) 89), (89, e_aload 0 90), (90, e_getR opsS 12 33 93), (93, e_iconst (1) 94), (94, e_iload 5 96), (96, e_ast opsS 100 (fun v => v) 97), (97, e_aload 0 98), (98, e_getR opsS 12 33 101), (101, e_iconst (2) 102), (102, e_iload 4 104), (104, e_ast opsS 100 (fun v => v) 105), (105, e_aload 0 106), (106, e_getR opsS 12 33 109), (109, e_iconst (3) 110), (110, e_iload 2 111), (111, e_ast opsS 100 (fun v => v) 112), (112, e_aload 0 113), (113, e_getR opsS 12 33 116), (116, e_iconst (4) 117), (117, e_iload 1 118), (118, e_ast opsS 100 (fun v => v) 119), (119, e_aload 0 120), (120, e_getR opsS 12 33 123), (123, e_iconst (5) 124), (124, e_iload 7 126), (126, e_ast opsS 100 (fun v => v) 127), (127, e_aload 0 128), (128, e_iconst (0) 129), (129, e_callV opsS cal 182 1 12 132), (132, e_istore 6 134), (134, e_iload 6 136), (136, e_ifge 143 139), (139, e_iconst (0) 140), (140, e_goto 157), (143, e_iload 6 145), (145, e_iconst (12) 147), (147, e_cle 155 150), (150, e_iconst (12) 152), (152, e_goto 157), (155, e_iload 6 157), (157, e_iret)]
set_option maxRecDepth 100000 in
set_option maxHeartbeats 4000000 in
theorem tk_X12_fallsBy {ad0 : Nat → Nat} {G : Gm} {A : Nat → Prop} {p : Program} {l : Launch} {e : Env} {R : Room} {s0 : State} {m : MethodId} {args : Array Value} {below : List Frame} {meth : Method} {c : Code} {Q : State → Prop} {ρ : Type} {ret : Option Value → SS → Option ρ} {r : ρ} (X : Cx G A RX12 cX12_fallsBy 9 p s0 m args c) {D' : Nat} {cal : Cal SS} (hcal : calOK l G opsS D' cal) (hRm : ∀ k, k ≤ 21 → D' + 1 ≤ R.frames ∧ 8 + (k + 11) + 40 * D' ≤ R.locals) (hret : RetK G A cX12_fallsBy 113 6344 ad0 p l e R s0 m args below meth c Q opsS ret r .ireturn okI) : ∀ q ∈ tb_X12_fallsBy cal, OKi G A 9 113 6344 ad0 p l e R s0 m args below meth c Q opsS ret r q.1 q.2 :=
    okc (ok_aload_n (j := 0) X (by decide +kernel) rfl rfl) (
    okc (ok_getR (ci := 12) (kf := 36) (idx := 78) (C := RX12) (T := TX12) (N := 63) X rfl (by decide) inX12 (by decide) wf_X12_78 (fun _ _ _ => rfl) (by decide +kernel) rfl) (
    okc (ok_iload_n (j := 1) X (by decide +kernel) rfl rfl) (
    okc (ok_iald X (by decide +kernel) rfl) (
    okc (ok_istore X (by decide +kernel) rfl) (
    okc (ok_iload X (by decide +kernel) rfl) (
    okc (ok_ifne (off := 5) X (by decide +kernel) (by decide) rfl) (
    okc (ok_iconst (n := 0) X (by decide +kernel) rfl rfl) (
    okc (ok_iret hret (by decide +kernel)) (
    okc (ok_aload_n (j := 0) X (by decide +kernel) rfl rfl) (
    okc (ok_iload_n (j := 3) X (by decide +kernel) rfl rfl) (
    okc (ok_iload_n (j := 2) X (by decide +kernel) rfl rfl) (
    okc (ok_callV (ci := 12) (C := RX12) (T := TX12) (N := 63) (Y := (yX12_gustAt, cX12_gustAt, 4, (some .int))) X hcal opsS_n md_X12_gustAt rfl (by decide) rfl wc_X12_gustAt wl_X12_262 wi_X12 wm_X12_gustAt wv_X12_gustAt (by decide +kernel) (hRm 4 (by decide)) (by decide +kernel) rfl) (
    okc (ok_iload X (by decide +kernel) rfl) (
    okc (ok_iadd X (by decide +kernel) rfl) (
    okc (ok_iload X (by decide +kernel) rfl) (
    okc (ok_isub X (by decide +kernel) rfl) (
    okc (ok_istore X (by decide +kernel) rfl) (
    okc (ok_aload_n (j := 0) X (by decide +kernel) rfl rfl) (
    okc (ok_getI (ci := 12) (kf := 35) (idx := 251) (C := RX12) (T := TX12) (N := 63) X rfl (by decide) inX12 (by decide) wf_X12_251 (fun _ _ _ => rfl) (by decide +kernel) rfl) (
    okc (ok_ifeq (off := 101) X (by decide +kernel) (by decide) rfl) (
    okc (ok_iconst (n := 0) X (by decide +kernel) rfl rfl) (
    okc (ok_istore X (by decide +kernel) rfl) (
    okc (ok_iconst (n := 0) X (by decide +kernel) rfl rfl) (
    okc (ok_istore X (by decide +kernel) rfl) (
    okc (ok_iload X (by decide +kernel) rfl) (
    okc (ok_aload_n (j := 0) X (by decide +kernel) rfl rfl) (
    okc (ok_getI (ci := 12) (kf := 11) (idx := 138) (C := RX12) (T := TX12) (N := 63) X rfl (by decide) inX12 (by decide) wf_X12_138 (fun _ _ _ => rfl) (by decide +kernel) rfl) (
    okc (ok_cge (off := 29) X (by decide +kernel) (by decide) rfl) (
    okc (ok_iload X (by decide +kernel) rfl) (
    okc (ok_iload_n (j := 1) X (by decide +kernel) rfl rfl) (
    okc (ok_ceq (off := 17) X (by decide +kernel) (by decide) rfl) (
    okc (ok_aload_n (j := 0) X (by decide +kernel) rfl rfl) (
    okc (ok_getR (ci := 12) (kf := 37) (idx := 81) (C := RX12) (T := TX12) (N := 63) X rfl (by decide) inX12 (by decide) wf_X12_81 (fun _ _ _ => rfl) (by decide +kernel) rfl) (
    okc (ok_iload X (by decide +kernel) rfl) (
    okc (ok_iald X (by decide +kernel) rfl) (
    okc (ok_iload_n (j := 3) X (by decide +kernel) rfl rfl) (
    okc (ok_cne (off := 6) X (by decide +kernel) (by decide) rfl) (
    okc (ok_iinc (n := 1) X (by decide +kernel) rfl rfl) (
    okc (ok_iinc (n := 1) X (by decide +kernel) rfl rfl) (
    okc (ok_goto (off := -32) X (by decide +kernel) (by decide)) (
    okc (ok_aload_n (j := 0) X (by decide +kernel) rfl rfl) (
    okc (ok_getR (ci := 12) (kf := 33) (idx := 72) (C := RX12) (T := TX12) (N := 63) X rfl (by decide) inX12 (by decide) wf_X12_72 (fun _ _ _ => rfl) (by decide +kernel) rfl) (
    okc (ok_iconst (n := 0) X (by decide +kernel) rfl rfl) (
    okc (ok_aload_n (j := 0) X (by decide +kernel) rfl rfl) (
    okc (ok_iload_n (j := 3) X (by decide +kernel) rfl rfl) (
    okc (ok_iload_n (j := 2) X (by decide +kernel) rfl rfl) (
    okc (ok_callV (ci := 12) (C := RX12) (T := TX12) (N := 63) (Y := (yX12_gustAt, cX12_gustAt, 4, (some .int))) X hcal opsS_n md_X12_gustAt rfl (by decide) rfl wc_X12_gustAt wl_X12_262 wi_X12 wm_X12_gustAt wv_X12_gustAt (by decide +kernel) (hRm 4 (by decide)) (by decide +kernel) rfl) (
    okc (ok_iast X opsS_ok (by decide +kernel) rfl) (
    okc (ok_aload_n (j := 0) X (by decide +kernel) rfl rfl) (
    okc (ok_getR (ci := 12) (kf := 33) (idx := 72) (C := RX12) (T := TX12) (N := 63) X rfl (by decide) inX12 (by decide) wf_X12_72 (fun _ _ _ => rfl) (by decide +kernel) rfl) (
    okc (ok_iconst (n := 1) X (by decide +kernel) rfl rfl) (
    okc (ok_iload X (by decide +kernel) rfl) (
    okc (ok_iast X opsS_ok (by decide +kernel) rfl) (
    okc (ok_aload_n (j := 0) X (by decide +kernel) rfl rfl) (
    okc (ok_getR (ci := 12) (kf := 33) (idx := 72) (C := RX12) (T := TX12) (N := 63) X rfl (by decide) inX12 (by decide) wf_X12_72 (fun _ _ _ => rfl) (by decide +kernel) rfl) (
    okc (ok_iconst (n := 2) X (by decide +kernel) rfl rfl) (
    okc (ok_iload X (by decide +kernel) rfl) (
    okc (ok_iast X opsS_ok (by decide +kernel) rfl) (
    okc (ok_aload_n (j := 0) X (by decide +kernel) rfl rfl) (
    okc (ok_getR (ci := 12) (kf := 33) (idx := 72) (C := RX12) (T := TX12) (N := 63) X rfl (by decide) inX12 (by decide) wf_X12_72 (fun _ _ _ => rfl) (by decide +kernel) rfl) (
    okc (ok_iconst (n := 3) X (by decide +kernel) rfl rfl) (
    okc (ok_iload_n (j := 2) X (by decide +kernel) rfl rfl) (
    okc (ok_iast X opsS_ok (by decide +kernel) rfl) (
    okc (ok_aload_n (j := 0) X (by decide +kernel) rfl rfl) (
    okc (ok_getR (ci := 12) (kf := 33) (idx := 72) (C := RX12) (T := TX12) (N := 63) X rfl (by decide) inX12 (by decide) wf_X12_72 (fun _ _ _ => rfl) (by decide +kernel) rfl) (
    okc (ok_iconst (n := 4) X (by decide +kernel) rfl rfl) (
    okc (ok_iload_n (j := 1) X (by decide +kernel) rfl rfl) (
    okc (ok_iast X opsS_ok (by decide +kernel) rfl) (
    okc (ok_aload_n (j := 0) X (by decide +kernel) rfl rfl) (
    okc (ok_getR (ci := 12) (kf := 33) (idx := 72) (C := RX12) (T := TX12) (N := 63) X rfl (by decide) inX12 (by decide) wf_X12_72 (fun _ _ _ => rfl) (by decide +kernel) rfl) (
    okc (ok_iconst (n := 5) X (by decide +kernel) rfl rfl) (
    okc (ok_iload X (by decide +kernel) rfl) (
    okc (ok_iast X opsS_ok (by decide +kernel) rfl) (
    okc (ok_aload_n (j := 0) X (by decide +kernel) rfl rfl) (
    okc (ok_iconst (n := 0) X (by decide +kernel) rfl rfl) (
    okc (ok_callV (ci := 12) (C := RX12) (T := TX12) (N := 63) (Y := (yX12_gives, cX12_gives, 4, (some .int))) X hcal opsS_n md_X12_gives rfl (by decide) rfl wc_X12_gives wl_X12_265 wi_X12 wm_X12_gives wv_X12_gives (by decide +kernel) (hRm 4 (by decide)) (by decide +kernel) rfl) (
    okc (ok_istore X (by decide +kernel) rfl) (
    okc (ok_iload X (by decide +kernel) rfl) (
    okc (ok_ifge (off := 7) X (by decide +kernel) (by decide) rfl) (
    okc (ok_iconst (n := 0) X (by decide +kernel) rfl rfl) (
    okc (ok_goto (off := 17) X (by decide +kernel) (by decide)) (
    okc (ok_iload X (by decide +kernel) rfl) (
    okc (ok_bipush (n := 12) X (by decide +kernel) rfl rfl) (
    okc (ok_cle (off := 8) X (by decide +kernel) (by decide) rfl) (
    okc (ok_bipush (n := 12) X (by decide +kernel) rfl rfl) (
    okc (ok_goto (off := 5) X (by decide +kernel) (by decide)) (
    okc (ok_iload X (by decide +kernel) rfl) (
    okc (ok_iret hret (by decide +kernel)) (
    okn)))))))))))))))))))))))))))))))))))))))))))))))))))))))))))))))))))))))))))))))))))))))))
noncomputable def es_X12_fallsBy  : List (Nat × En) := [(184, en_X12_gustAt), (182, en_X12_gives)]
noncomputable def ka_X12_fallsBy_42   (n : Nat) : Kn SS (Int32 × SS) := fun pc ls st s => bif Nat.beq pc 42 then (match ls, st with
    | [some y0, some (.int x1), some (.int x2), some (.int x3), some (.int x4), some (.int x5), _, some (.int x7), some (.int x8)], [] => (gd (veq y0 (.ref 74)) (F_X12_fallsBy_42 n x1 x2 x3 x4 x5 x7 x8 s))
    | _, _ => none) else (none)
set_option maxRecDepth 100000 in
set_option maxHeartbeats 4000000 in
theorem eq_X12_fallsBy_42    (n : Nat) (x1 : Int32) (x2 : Int32) (x3 : Int32) (x4 : Int32) (x5 : Int32) (x7 : Int32) (x8 : Int32) (s : SS) : ex (tb_X12_fallsBy (calE (es_X12_fallsBy))) rI [42] (ka_X12_fallsBy_42   n) 91 42 [some (.ref 74), some (.int x1), some (.int x2), some (.int x3), some (.int x4), some (.int x5), none, some (.int x7), some (.int x8)] [] s = F_X12_fallsBy_42   (n + 1) x1 x2 x3 x4 x5 x7 x8 s := by
  rfl
set_option maxRecDepth 100000 in
set_option maxHeartbeats 4000000 in
theorem gd_X12_fallsBy_42 {ad0 : Nat → Nat} {G : Gm} {A : Nat → Prop} {p : Program} {l : Launch} {e : Env} {R : Room} {s0 : State} {m : MethodId} {args : Array Value} {below : List Frame} {meth : Method} {c : Code} {Q : State → Prop} {r : (Int32 × SS)}   (hT : ∀ q ∈ tb_X12_fallsBy (calE (es_X12_fallsBy)), OKi G A 9 113 6344 ad0 p l e R s0 m args below meth c Q opsS rI r q.1 q.2)   : ∀ (n : Nat) (x1 : Int32) (x2 : Int32) (x3 : Int32) (x4 : Int32) (x5 : Int32) (x7 : Int32) (x8 : Int32) (s : SS), F_X12_fallsBy_42   n x1 x2 x3 x4 x5 x7 x8 s = some r → Gd G A 9 113 6344 ad0 p l e R s0 m args below meth c Q opsS 42 [some (.ref 74), some (.int x1), some (.int x2), some (.int x3), some (.int x4), some (.int x5), none, some (.int x7), some (.int x8)] [] s := by
  intro n
  induction n with
  | zero =>
    intro x1 x2 x3 x4 x5 x7 x8 s hh
    exact absurd (show (none : Option (Int32 × SS)) = some r from hh) (by simp)
  | succ n ih =>
    intro x1 x2 x3 x4 x5 x7 x8 s hh
    rw [← eq_X12_fallsBy_42    n x1 x2 x3 x4 x5 x7 x8 s] at hh
    refine ex_good hT (fun pc' ls' st' x' hh => ?_) 91 42 _ [] s hh
    unfold ka_X12_fallsBy_42 at hh
    cases hb : Nat.beq pc' 42 with
    | true =>
      rw [hb] at hh
      have e9 := beq1 hb
      subst e9
      simp only [cond_true] at hh
      split at hh
      · obtain ⟨g0, hh1⟩ := gd_some hh
        have e0 := veq_of g0
        subst e0
        exact Gd.wk (ih _ _ _ _ _ _ _ _ hh1) (Lle.eq (Lle.eq (Lle.eq (Lle.eq (Lle.eq (Lle.eq (Lle.no (Lle.eq (Lle.eq Lle.nil)))))))))
      · cases hh
    | false =>
      rw [hb] at hh
      simp only [cond_false] at hh
      cases hh

noncomputable def ka_X12_fallsBy  : Kn SS (Int32 × SS) := fun pc ls st s => bif Nat.beq pc 42 then (match ls, st with
    | [some y0, some (.int x1), some (.int x2), some (.int x3), some (.int x4), some (.int x5), _, some (.int x7), some (.int x8)], [] => (gd (veq y0 (.ref 74)) (F_X12_fallsBy_42 fuel0 x1 x2 x3 x4 x5 x7 x8 s))
    | _, _ => none) else (none)
set_option maxRecDepth 100000 in
set_option maxHeartbeats 4000000 in
theorem eq_X12_fallsBy   (a0 : Int32) (a1 : Int32) (a2 : Int32) (a3 : Int32) (s : SS) : ex (tb_X12_fallsBy (calE (es_X12_fallsBy))) rI [42] (ka_X12_fallsBy ) 91 0 [some (.ref 74), some (.int a0), some (.int a1), some (.int a2), some (.int a3), none, none, none, none] [] s = f_X12_fallsBy a0 a1 a2 a3 s := by
  rfl
set_option maxRecDepth 100000 in
set_option maxHeartbeats 4000000 in
theorem run_X12_fallsBy {l : Launch} {G : Gm}   (a0 : Int32) (a1 : Int32) (a2 : Int32) (a3 : Int32) (s : SS) (q : (Int32 × SS)) (h : f_X12_fallsBy a0 a1 a2 a3 s = some q) (D' : Nat) (hD : 3 ≤ D') : RunsM l G (D' + 1) (md 187) (embS s) [.ref 74, .int a0, .int a1, .int a2, .int a3] (some (.int q.1)) (embS q.2) := by
  rw [md_X12_fallsBy]
  refine runs_I (plainFor_of_name (by decide +kernel)) (Nat.le_of_ble_eq_true rfl) rfl ?_
  intro A p e R s0 m args below meth c Q ad0 hR X hret
  have X : Cx G A RX12 cX12_fallsBy 9 p s0 m args c := X
  have hT := tk_X12_fallsBy X (calE_ok (es := es_X12_fallsBy) (enc (en_X12_gustAt_ok _ (by omega)) (enc (en_X12_gives_ok _ (by omega)) (enn)))) (rmD rfl hR) hret
  rw [← eq_X12_fallsBy   a0 a1 a2 a3 s] at h
  refine ex_good hT (fun pc' ls' st' x' hh => ?_) 91 0 _ [] s h
  unfold ka_X12_fallsBy at hh
  cases hb : Nat.beq pc' 42 with
  | true =>
    rw [hb] at hh
    have e9 := beq1 hb
    subst e9
    simp only [cond_true] at hh
    split at hh
    · obtain ⟨g0, hh1⟩ := gd_some hh
      have e0 := veq_of g0
      subst e0
      exact Gd.wk (gd_X12_fallsBy_42 hT  _ _ _ _ _ _ _ _ _ hh1) (Lle.eq (Lle.eq (Lle.eq (Lle.eq (Lle.eq (Lle.eq (Lle.no (Lle.eq (Lle.eq Lle.nil)))))))))
    · cases hh
  | false =>
    rw [hb] at hh
    simp only [cond_false] at hh
    cases hh

noncomputable def en_X12_fallsBy  : En := fun _ av s k => match av with
  | [.ref r0, .int a0, .int a1, .int a2, .int a3] => (gd (Nat.beq r0 74) (bI (f_X12_fallsBy a0 a1 a2 a3 s) k))
  | _ => none
set_option maxRecDepth 100000 in
set_option maxHeartbeats 4000000 in
theorem en_X12_fallsBy_ok {l : Launch} {G : Gm} (D : Nat) (hD : 4 ≤ D) : enOK l G D 187 en_X12_fallsBy := by
  intro ρ av x k r h
  unfold en_X12_fallsBy at h
  split at h
  · obtain ⟨g0, h⟩ := gd_some h
    obtain ⟨q, h1, h2⟩ := bind_of h
    have e0 := beq1 g0
    subst e0
    obtain ⟨D', rfl⟩ : ∃ D', D = D' + 1 := ⟨D - 1, by omega⟩
    exact ⟨_, _, h2, run_X12_fallsBy  _ _ _ _ _ _ h1 D' (by omega)⟩
  · cases h

/-! HatRankModel falls -/
noncomputable def tb_X12_falls (cal : Cal SS) : List (Nat × Ins SS) := [(0, e_aload 0 1), (1, e_iload 1 2), (2, e_iload 2 3), (3, e_aload 0 4), (4, e_getR opsS 12 37 7), (7, e_iload 1 8), (8, e_ald opsS 100 9), (9, e_aload 0 10), (10, e_getR opsS 12 13 13), (13, e_iload 1 14), (14, e_ald opsS 100 15), (15, e_callV opsS cal 187 4 12 18), (18, e_iret)]
set_option maxRecDepth 100000 in
set_option maxHeartbeats 4000000 in
theorem tk_X12_falls {ad0 : Nat → Nat} {G : Gm} {A : Nat → Prop} {p : Program} {l : Launch} {e : Env} {R : Room} {s0 : State} {m : MethodId} {args : Array Value} {below : List Frame} {meth : Method} {c : Code} {Q : State → Prop} {ρ : Type} {ret : Option Value → SS → Option ρ} {r : ρ} (X : Cx G A RX12 cX12_falls 3 p s0 m args c) {D' : Nat} {cal : Cal SS} (hcal : calOK l G opsS D' cal) (hRm : ∀ k, k ≤ 21 → D' + 1 ≤ R.frames ∧ 8 + (k + 11) + 40 * D' ≤ R.locals) (hret : RetK G A cX12_falls 113 6344 ad0 p l e R s0 m args below meth c Q opsS ret r .ireturn okI) : ∀ q ∈ tb_X12_falls cal, OKi G A 3 113 6344 ad0 p l e R s0 m args below meth c Q opsS ret r q.1 q.2 :=
    okc (ok_aload_n (j := 0) X (by decide +kernel) rfl rfl) (
    okc (ok_iload_n (j := 1) X (by decide +kernel) rfl rfl) (
    okc (ok_iload_n (j := 2) X (by decide +kernel) rfl rfl) (
    okc (ok_aload_n (j := 0) X (by decide +kernel) rfl rfl) (
    okc (ok_getR (ci := 12) (kf := 37) (idx := 81) (C := RX12) (T := TX12) (N := 63) X rfl (by decide) inX12 (by decide) wf_X12_81 (fun _ _ _ => rfl) (by decide +kernel) rfl) (
    okc (ok_iload_n (j := 1) X (by decide +kernel) rfl rfl) (
    okc (ok_iald X (by decide +kernel) rfl) (
    okc (ok_aload_n (j := 0) X (by decide +kernel) rfl rfl) (
    okc (ok_getR (ci := 12) (kf := 13) (idx := 31) (C := RX12) (T := TX12) (N := 63) X rfl (by decide) inX12 (by decide) wf_X12_31 (fun _ _ _ => rfl) (by decide +kernel) rfl) (
    okc (ok_iload_n (j := 1) X (by decide +kernel) rfl rfl) (
    okc (ok_iald X (by decide +kernel) rfl) (
    okc (ok_callV (ci := 12) (C := RX12) (T := TX12) (N := 63) (Y := (yX12_fallsBy, cX12_fallsBy, 9, (some .int))) X hcal opsS_n md_X12_fallsBy rfl (by decide) rfl wc_X12_fallsBy wl_X12_258 wi_X12 wm_X12_fallsBy wv_X12_fallsBy (by decide +kernel) (hRm 9 (by decide)) (by decide +kernel) rfl) (
    okc (ok_iret hret (by decide +kernel)) (
    okn)))))))))))))
noncomputable def es_X12_falls  : List (Nat × En) := [(187, en_X12_fallsBy)]
set_option maxRecDepth 100000 in
set_option maxHeartbeats 4000000 in
theorem eq_X12_falls   (a0 : Int32) (a1 : Int32) (s : SS) : ex (tb_X12_falls (calE (es_X12_falls))) rI [] (fun _ _ _ _ => none) 15 0 [some (.ref 74), some (.int a0), some (.int a1)] [] s = f_X12_falls a0 a1 s := by
  rfl
set_option maxRecDepth 100000 in
set_option maxHeartbeats 4000000 in
theorem run_X12_falls {l : Launch} {G : Gm}   (a0 : Int32) (a1 : Int32) (s : SS) (q : (Int32 × SS)) (h : f_X12_falls a0 a1 s = some q) (D' : Nat) (hD : 4 ≤ D') : RunsM l G (D' + 1) (md 186) (embS s) [.ref 74, .int a0, .int a1] (some (.int q.1)) (embS q.2) := by
  rw [md_X12_falls]
  refine runs_I (plainFor_of_name (by decide +kernel)) (Nat.le_of_ble_eq_true rfl) rfl ?_
  intro A p e R s0 m args below meth c Q ad0 hR X hret
  have X : Cx G A RX12 cX12_falls 3 p s0 m args c := X
  have hT := tk_X12_falls X (calE_ok (es := es_X12_falls) (enc (en_X12_fallsBy_ok _ (by omega)) (enn))) (rmD rfl hR) hret
  rw [← eq_X12_falls   a0 a1 s] at h
  refine ex_good hT (fun pc' ls' st' x' hh => ?_) 15 0 _ [] s h
  cases hh

noncomputable def en_X12_falls  : En := fun _ av s k => match av with
  | [.ref r0, .int a0, .int a1] => (gd (Nat.beq r0 74) (bI (f_X12_falls a0 a1 s) k))
  | _ => none
set_option maxRecDepth 100000 in
set_option maxHeartbeats 4000000 in
theorem en_X12_falls_ok {l : Launch} {G : Gm} (D : Nat) (hD : 5 ≤ D) : enOK l G D 186 en_X12_falls := by
  intro ρ av x k r h
  unfold en_X12_falls at h
  split at h
  · obtain ⟨g0, h⟩ := gd_some h
    obtain ⟨q, h1, h2⟩ := bind_of h
    have e0 := beq1 g0
    subst e0
    obtain ⟨D', rfl⟩ : ∃ D', D = D' + 1 := ⟨D - 1, by omega⟩
    exact ⟨_, _, h2, run_X12_falls  _ _ _ _ h1 D' (by omega)⟩
  · cases h

/-! HatRankModel rankOf -/
noncomputable def tb_X12_rankOf (cal : Cal SS) : List (Nat × Ins SS) := [(0, e_iconst (0) 1), (1, e_istore 3 2), (2, e_iconst (0) 3), (3, e_istore 4 5), (5, e_iload 4 7), (7, e_aload 0 8), (8, e_getI opsS 12 11 11), (11, e_cge 49 14), (14, e_aload 2 15), (15, e_iload 4 17), (17, e_ald opsS 100 18), (18, e_aload 2 19), (19, e_iload 1 20), (20, e_ald opsS 100 21), (21, e_cgt 40 24), (24, e_aload 2 25), (25, e_iload 4 27), (27, e_ald opsS 100 28), (28, e_aload 2 29), (29, e_iload 1 30), (30, e_ald opsS 100 31), (31, e_cne 43 34), (34, e_iload 4 36), (36, e_iload 1 37), (37, e_cge 43 40), (40, e_iinc 3 (1) 43), (43, e_iinc 4 (1) 46), (46, e_goto 5), (49, e_iload 3 50), (50, e_iret)]
set_option maxRecDepth 100000 in
set_option maxHeartbeats 4000000 in
theorem tk_X12_rankOf {ad0 : Nat → Nat} {G : Gm} {A : Nat → Prop} {p : Program} {l : Launch} {e : Env} {R : Room} {s0 : State} {m : MethodId} {args : Array Value} {below : List Frame} {meth : Method} {c : Code} {Q : State → Prop} {ρ : Type} {ret : Option Value → SS → Option ρ} {r : ρ} (X : Cx G A RX12 cX12_rankOf 5 p s0 m args c) {D' : Nat} {cal : Cal SS} (hcal : calOK l G opsS D' cal) (hRm : ∀ k, k ≤ 21 → D' + 1 ≤ R.frames ∧ 8 + (k + 11) + 40 * D' ≤ R.locals) (hret : RetK G A cX12_rankOf 113 6344 ad0 p l e R s0 m args below meth c Q opsS ret r .ireturn okI) : ∀ q ∈ tb_X12_rankOf cal, OKi G A 5 113 6344 ad0 p l e R s0 m args below meth c Q opsS ret r q.1 q.2 :=
    okc (ok_iconst (n := 0) X (by decide +kernel) rfl rfl) (
    okc (ok_istore_n (j := 3) X (by decide +kernel) rfl rfl) (
    okc (ok_iconst (n := 0) X (by decide +kernel) rfl rfl) (
    okc (ok_istore X (by decide +kernel) rfl) (
    okc (ok_iload X (by decide +kernel) rfl) (
    okc (ok_aload_n (j := 0) X (by decide +kernel) rfl rfl) (
    okc (ok_getI (ci := 12) (kf := 11) (idx := 138) (C := RX12) (T := TX12) (N := 63) X rfl (by decide) inX12 (by decide) wf_X12_138 (fun _ _ _ => rfl) (by decide +kernel) rfl) (
    okc (ok_cge (off := 38) X (by decide +kernel) (by decide) rfl) (
    okc (ok_aload_n (j := 2) X (by decide +kernel) rfl rfl) (
    okc (ok_iload X (by decide +kernel) rfl) (
    okc (ok_iald X (by decide +kernel) rfl) (
    okc (ok_aload_n (j := 2) X (by decide +kernel) rfl rfl) (
    okc (ok_iload_n (j := 1) X (by decide +kernel) rfl rfl) (
    okc (ok_iald X (by decide +kernel) rfl) (
    okc (ok_cgt (off := 19) X (by decide +kernel) (by decide) rfl) (
    okc (ok_aload_n (j := 2) X (by decide +kernel) rfl rfl) (
    okc (ok_iload X (by decide +kernel) rfl) (
    okc (ok_iald X (by decide +kernel) rfl) (
    okc (ok_aload_n (j := 2) X (by decide +kernel) rfl rfl) (
    okc (ok_iload_n (j := 1) X (by decide +kernel) rfl rfl) (
    okc (ok_iald X (by decide +kernel) rfl) (
    okc (ok_cne (off := 12) X (by decide +kernel) (by decide) rfl) (
    okc (ok_iload X (by decide +kernel) rfl) (
    okc (ok_iload_n (j := 1) X (by decide +kernel) rfl rfl) (
    okc (ok_cge (off := 6) X (by decide +kernel) (by decide) rfl) (
    okc (ok_iinc (n := 1) X (by decide +kernel) rfl rfl) (
    okc (ok_iinc (n := 1) X (by decide +kernel) rfl rfl) (
    okc (ok_goto (off := -41) X (by decide +kernel) (by decide)) (
    okc (ok_iload_n (j := 3) X (by decide +kernel) rfl rfl) (
    okc (ok_iret hret (by decide +kernel)) (
    okn))))))))))))))))))))))))))))))
noncomputable def es_X12_rankOf  : List (Nat × En) := []
noncomputable def ka_X12_rankOf_5 (d : Nat)  (n : Nat) : Kn SS (Int32 × SS) := fun pc ls st s => bif Nat.beq pc 5 then (match ls, st with
    | [some y0, some (.int x1), some y2, some (.int x3), some (.int x4)], [] => (gd (veq y0 (.ref 74)) (gd (veq y2 (.ref d)) (F_X12_rankOf_5 d n x1 x3 x4 s)))
    | _, _ => none) else (none)
set_option maxRecDepth 100000 in
set_option maxHeartbeats 4000000 in
theorem eq_X12_rankOf_5 (d : Nat)  (hd : (Nat.beq d 81 || Nat.beq d 97) = true) (n : Nat) (x1 : Int32) (x3 : Int32) (x4 : Int32) (s : SS) : ex (tb_X12_rankOf (calE (es_X12_rankOf))) rI [5] (ka_X12_rankOf_5 d  n) 32 5 [some (.ref 74), some (.int x1), some (.ref d), some (.int x3), some (.int x4)] [] s = F_X12_rankOf_5 d  (n + 1) x1 x3 x4 s := by
  rcases beq2 hd with rfl | rfl <;> rfl
set_option maxRecDepth 100000 in
set_option maxHeartbeats 4000000 in
theorem gd_X12_rankOf_5 {ad0 : Nat → Nat} {G : Gm} {A : Nat → Prop} {p : Program} {l : Launch} {e : Env} {R : Room} {s0 : State} {m : MethodId} {args : Array Value} {below : List Frame} {meth : Method} {c : Code} {Q : State → Prop} {r : (Int32 × SS)} {d : Nat}  (hT : ∀ q ∈ tb_X12_rankOf (calE (es_X12_rankOf)), OKi G A 5 113 6344 ad0 p l e R s0 m args below meth c Q opsS rI r q.1 q.2)  (hd : (Nat.beq d 81 || Nat.beq d 97) = true) : ∀ (n : Nat) (x1 : Int32) (x3 : Int32) (x4 : Int32) (s : SS), F_X12_rankOf_5 d  n x1 x3 x4 s = some r → Gd G A 5 113 6344 ad0 p l e R s0 m args below meth c Q opsS 5 [some (.ref 74), some (.int x1), some (.ref d), some (.int x3), some (.int x4)] [] s := by
  intro n
  induction n with
  | zero =>
    intro x1 x3 x4 s hh
    exact absurd (show (none : Option (Int32 × SS)) = some r from hh) (by simp)
  | succ n ih =>
    intro x1 x3 x4 s hh
    rw [← eq_X12_rankOf_5 d  hd n x1 x3 x4 s] at hh
    refine ex_good hT (fun pc' ls' st' x' hh => ?_) 32 5 _ [] s hh
    unfold ka_X12_rankOf_5 at hh
    cases hb : Nat.beq pc' 5 with
    | true =>
      rw [hb] at hh
      have e9 := beq1 hb
      subst e9
      simp only [cond_true] at hh
      split at hh
      · obtain ⟨g0, hh1⟩ := gd_some hh
        have e0 := veq_of g0
        subst e0
        obtain ⟨g1, hh2⟩ := gd_some hh1
        have e1 := veq_of g1
        subst e1
        exact Gd.wk (ih _ _ _ _ hh2) (Lle.eq (Lle.eq (Lle.eq (Lle.eq (Lle.eq Lle.nil)))))
      · cases hh
    | false =>
      rw [hb] at hh
      simp only [cond_false] at hh
      cases hh

noncomputable def ka_X12_rankOf (d : Nat) : Kn SS (Int32 × SS) := fun pc ls st s => bif Nat.beq pc 5 then (match ls, st with
    | [some y0, some (.int x1), some y2, some (.int x3), some (.int x4)], [] => (gd (veq y0 (.ref 74)) (gd (veq y2 (.ref d)) (F_X12_rankOf_5 d fuel0 x1 x3 x4 s)))
    | _, _ => none) else (none)
set_option maxRecDepth 100000 in
set_option maxHeartbeats 4000000 in
theorem eq_X12_rankOf (d : Nat) (hd : (Nat.beq d 81 || Nat.beq d 97) = true) (a0 : Int32) (s : SS) : ex (tb_X12_rankOf (calE (es_X12_rankOf))) rI [5] (ka_X12_rankOf d) 32 0 [some (.ref 74), some (.int a0), some (.ref d), none, none] [] s = f_X12_rankOf d a0 s := by
  rcases beq2 hd with rfl | rfl <;> rfl
set_option maxRecDepth 100000 in
set_option maxHeartbeats 4000000 in
theorem run_X12_rankOf {l : Launch} {G : Gm} {d : Nat} (hd : (Nat.beq d 81 || Nat.beq d 97) = true) (a0 : Int32) (s : SS) (q : (Int32 × SS)) (h : f_X12_rankOf d a0 s = some q) (D' : Nat) (hD : 0 ≤ D') : RunsM l G (D' + 1) (md 188) (embS s) [.ref 74, .int a0, .ref d] (some (.int q.1)) (embS q.2) := by
  rw [md_X12_rankOf]
  refine runs_I (plainFor_of_name (by decide +kernel)) (Nat.le_of_ble_eq_true rfl) rfl ?_
  intro A p e R s0 m args below meth c Q ad0 hR X hret
  have X : Cx G A RX12 cX12_rankOf 5 p s0 m args c := X
  have hT := tk_X12_rankOf X (calE_ok (es := es_X12_rankOf) (enn)) (rmD rfl hR) hret
  rw [← eq_X12_rankOf d hd a0 s] at h
  refine ex_good hT (fun pc' ls' st' x' hh => ?_) 32 0 _ [] s h
  unfold ka_X12_rankOf at hh
  cases hb : Nat.beq pc' 5 with
  | true =>
    rw [hb] at hh
    have e9 := beq1 hb
    subst e9
    simp only [cond_true] at hh
    split at hh
    · obtain ⟨g0, hh1⟩ := gd_some hh
      have e0 := veq_of g0
      subst e0
      obtain ⟨g1, hh2⟩ := gd_some hh1
      have e1 := veq_of g1
      subst e1
      exact Gd.wk (gd_X12_rankOf_5 hT hd _ _ _ _ _ hh2) (Lle.eq (Lle.eq (Lle.eq (Lle.eq (Lle.eq Lle.nil)))))
    · cases hh
  | false =>
    rw [hb] at hh
    simp only [cond_false] at hh
    cases hh

noncomputable def en_X12_rankOf  : En := fun _ av s k => match av with
  | [.ref r0, .int a0, .ref d] => (gd (Nat.beq r0 74) (gd (Nat.beq d 81 || Nat.beq d 97) (bI (f_X12_rankOf d a0 s) k)))
  | _ => none
set_option maxRecDepth 100000 in
set_option maxHeartbeats 4000000 in
theorem en_X12_rankOf_ok {l : Launch} {G : Gm} (D : Nat) (hD : 1 ≤ D) : enOK l G D 188 en_X12_rankOf := by
  intro ρ av x k r h
  unfold en_X12_rankOf at h
  split at h
  · obtain ⟨g0, h⟩ := gd_some h
    obtain ⟨g1, h⟩ := gd_some h
    obtain ⟨q, h1, h2⟩ := bind_of h
    have e0 := beq1 g0
    subst e0
    obtain ⟨D', rfl⟩ : ∃ D', D = D' + 1 := ⟨D - 1, by omega⟩
    exact ⟨_, _, h2, run_X12_rankOf g1 _ _ _ h1 D' (by omega)⟩
  · cases h

/-! HatRankModel firstOf -/
noncomputable def tb_X12_firstOf (cal : Cal SS) : List (Nat × Ins SS) := [(0, e_iconst (0) 1), (1, e_istore 2 2), (2, e_iload 2 3), (3, e_aload 0 4), (4, e_getI opsS 12 11 7), (7, e_cge 27 10), (10, e_aload 0 11), (11, e_iload 2 12), (12, e_aload 1 13), (13, e_callV opsS cal 188 2 12 16), (16, e_ifne 21 19), (19, e_iload 2 20), (20, e_iret), (21, e_iinc 2 (1) 24), (24, e_goto 2), (27, e_iconst (-1) 28), (28, e_iret)]
set_option maxRecDepth 100000 in
set_option maxHeartbeats 4000000 in
theorem tk_X12_firstOf {ad0 : Nat → Nat} {G : Gm} {A : Nat → Prop} {p : Program} {l : Launch} {e : Env} {R : Room} {s0 : State} {m : MethodId} {args : Array Value} {below : List Frame} {meth : Method} {c : Code} {Q : State → Prop} {ρ : Type} {ret : Option Value → SS → Option ρ} {r : ρ} (X : Cx G A RX12 cX12_firstOf 3 p s0 m args c) {D' : Nat} {cal : Cal SS} (hcal : calOK l G opsS D' cal) (hRm : ∀ k, k ≤ 21 → D' + 1 ≤ R.frames ∧ 8 + (k + 11) + 40 * D' ≤ R.locals) (hret : RetK G A cX12_firstOf 113 6344 ad0 p l e R s0 m args below meth c Q opsS ret r .ireturn okI) : ∀ q ∈ tb_X12_firstOf cal, OKi G A 3 113 6344 ad0 p l e R s0 m args below meth c Q opsS ret r q.1 q.2 :=
    okc (ok_iconst (n := 0) X (by decide +kernel) rfl rfl) (
    okc (ok_istore_n (j := 2) X (by decide +kernel) rfl rfl) (
    okc (ok_iload_n (j := 2) X (by decide +kernel) rfl rfl) (
    okc (ok_aload_n (j := 0) X (by decide +kernel) rfl rfl) (
    okc (ok_getI (ci := 12) (kf := 11) (idx := 138) (C := RX12) (T := TX12) (N := 63) X rfl (by decide) inX12 (by decide) wf_X12_138 (fun _ _ _ => rfl) (by decide +kernel) rfl) (
    okc (ok_cge (off := 20) X (by decide +kernel) (by decide) rfl) (
    okc (ok_aload_n (j := 0) X (by decide +kernel) rfl rfl) (
    okc (ok_iload_n (j := 2) X (by decide +kernel) rfl rfl) (
    okc (ok_aload_n (j := 1) X (by decide +kernel) rfl rfl) (
    okc (ok_callV (ci := 12) (C := RX12) (T := TX12) (N := 63) (Y := (yX12_rankOf, cX12_rankOf, 5, (some .int))) X hcal opsS_n md_X12_rankOf rfl (by decide) rfl wc_X12_rankOf wl_X12_268 wi_X12 wm_X12_rankOf wv_X12_rankOf (by decide +kernel) (hRm 5 (by decide)) (by decide +kernel) rfl) (
    okc (ok_ifne (off := 5) X (by decide +kernel) (by decide) rfl) (
    okc (ok_iload_n (j := 2) X (by decide +kernel) rfl rfl) (
    okc (ok_iret hret (by decide +kernel)) (
    okc (ok_iinc (n := 1) X (by decide +kernel) rfl rfl) (
    okc (ok_goto (off := -22) X (by decide +kernel) (by decide)) (
    okc (ok_iconst (n := -1) X (by decide +kernel) rfl rfl) (
    okc (ok_iret hret (by decide +kernel)) (
    okn)))))))))))))))))
noncomputable def es_X12_firstOf  : List (Nat × En) := [(188, en_X12_rankOf)]
noncomputable def ka_X12_firstOf_2 (d : Nat)  (n : Nat) : Kn SS (Int32 × SS) := fun pc ls st s => bif Nat.beq pc 2 then (match ls, st with
    | [some y0, some y1, some (.int x2)], [] => (gd (veq y0 (.ref 74)) (gd (veq y1 (.ref d)) (F_X12_firstOf_2 d n x2 s)))
    | _, _ => none) else (none)
set_option maxRecDepth 100000 in
set_option maxHeartbeats 4000000 in
theorem eq_X12_firstOf_2 (d : Nat)  (hd : (Nat.beq d 81 || Nat.beq d 97) = true) (n : Nat) (x2 : Int32) (s : SS) : ex (tb_X12_firstOf (calE (es_X12_firstOf))) rI [2] (ka_X12_firstOf_2 d  n) 19 2 [some (.ref 74), some (.ref d), some (.int x2)] [] s = F_X12_firstOf_2 d  (n + 1) x2 s := by
  rcases beq2 hd with rfl | rfl <;> rfl
set_option maxRecDepth 100000 in
set_option maxHeartbeats 4000000 in
theorem gd_X12_firstOf_2 {ad0 : Nat → Nat} {G : Gm} {A : Nat → Prop} {p : Program} {l : Launch} {e : Env} {R : Room} {s0 : State} {m : MethodId} {args : Array Value} {below : List Frame} {meth : Method} {c : Code} {Q : State → Prop} {r : (Int32 × SS)} {d : Nat}  (hT : ∀ q ∈ tb_X12_firstOf (calE (es_X12_firstOf)), OKi G A 3 113 6344 ad0 p l e R s0 m args below meth c Q opsS rI r q.1 q.2)  (hd : (Nat.beq d 81 || Nat.beq d 97) = true) : ∀ (n : Nat) (x2 : Int32) (s : SS), F_X12_firstOf_2 d  n x2 s = some r → Gd G A 3 113 6344 ad0 p l e R s0 m args below meth c Q opsS 2 [some (.ref 74), some (.ref d), some (.int x2)] [] s := by
  intro n
  induction n with
  | zero =>
    intro x2 s hh
    exact absurd (show (none : Option (Int32 × SS)) = some r from hh) (by simp)
  | succ n ih =>
    intro x2 s hh
    rw [← eq_X12_firstOf_2 d  hd n x2 s] at hh
    refine ex_good hT (fun pc' ls' st' x' hh => ?_) 19 2 _ [] s hh
    unfold ka_X12_firstOf_2 at hh
    cases hb : Nat.beq pc' 2 with
    | true =>
      rw [hb] at hh
      have e9 := beq1 hb
      subst e9
      simp only [cond_true] at hh
      split at hh
      · obtain ⟨g0, hh1⟩ := gd_some hh
        have e0 := veq_of g0
        subst e0
        obtain ⟨g1, hh2⟩ := gd_some hh1
        have e1 := veq_of g1
        subst e1
        exact Gd.wk (ih _ _ hh2) (Lle.eq (Lle.eq (Lle.eq Lle.nil)))
      · cases hh
    | false =>
      rw [hb] at hh
      simp only [cond_false] at hh
      cases hh

noncomputable def ka_X12_firstOf (d : Nat) : Kn SS (Int32 × SS) := fun pc ls st s => bif Nat.beq pc 2 then (match ls, st with
    | [some y0, some y1, some (.int x2)], [] => (gd (veq y0 (.ref 74)) (gd (veq y1 (.ref d)) (F_X12_firstOf_2 d fuel0 x2 s)))
    | _, _ => none) else (none)
set_option maxRecDepth 100000 in
set_option maxHeartbeats 4000000 in
theorem eq_X12_firstOf (d : Nat) (hd : (Nat.beq d 81 || Nat.beq d 97) = true)  (s : SS) : ex (tb_X12_firstOf (calE (es_X12_firstOf))) rI [2] (ka_X12_firstOf d) 19 0 [some (.ref 74), some (.ref d), none] [] s = f_X12_firstOf d s := by
  rcases beq2 hd with rfl | rfl <;> rfl
set_option maxRecDepth 100000 in
set_option maxHeartbeats 4000000 in
theorem run_X12_firstOf {l : Launch} {G : Gm} {d : Nat} (hd : (Nat.beq d 81 || Nat.beq d 97) = true)  (s : SS) (q : (Int32 × SS)) (h : f_X12_firstOf d s = some q) (D' : Nat) (hD : 1 ≤ D') : RunsM l G (D' + 1) (md 189) (embS s) [.ref 74, .ref d] (some (.int q.1)) (embS q.2) := by
  rw [md_X12_firstOf]
  refine runs_I (plainFor_of_name (by decide +kernel)) (Nat.le_of_ble_eq_true rfl) rfl ?_
  intro A p e R s0 m args below meth c Q ad0 hR X hret
  have X : Cx G A RX12 cX12_firstOf 3 p s0 m args c := X
  have hT := tk_X12_firstOf X (calE_ok (es := es_X12_firstOf) (enc (en_X12_rankOf_ok _ (by omega)) (enn))) (rmD rfl hR) hret
  rw [← eq_X12_firstOf d hd  s] at h
  refine ex_good hT (fun pc' ls' st' x' hh => ?_) 19 0 _ [] s h
  unfold ka_X12_firstOf at hh
  cases hb : Nat.beq pc' 2 with
  | true =>
    rw [hb] at hh
    have e9 := beq1 hb
    subst e9
    simp only [cond_true] at hh
    split at hh
    · obtain ⟨g0, hh1⟩ := gd_some hh
      have e0 := veq_of g0
      subst e0
      obtain ⟨g1, hh2⟩ := gd_some hh1
      have e1 := veq_of g1
      subst e1
      exact Gd.wk (gd_X12_firstOf_2 hT hd _ _ _ hh2) (Lle.eq (Lle.eq (Lle.eq Lle.nil)))
    · cases hh
  | false =>
    rw [hb] at hh
    simp only [cond_false] at hh
    cases hh

noncomputable def en_X12_firstOf  : En := fun _ av s k => match av with
  | [.ref r0, .ref d] => (gd (Nat.beq r0 74) (gd (Nat.beq d 81 || Nat.beq d 97) (bI (f_X12_firstOf d s) k)))
  | _ => none
set_option maxRecDepth 100000 in
set_option maxHeartbeats 4000000 in
theorem en_X12_firstOf_ok {l : Launch} {G : Gm} (D : Nat) (hD : 2 ≤ D) : enOK l G D 189 en_X12_firstOf := by
  intro ρ av x k r h
  unfold en_X12_firstOf at h
  split at h
  · obtain ⟨g0, h⟩ := gd_some h
    obtain ⟨g1, h⟩ := gd_some h
    obtain ⟨q, h1, h2⟩ := bind_of h
    have e0 := beq1 g0
    subst e0
    obtain ⟨D', rfl⟩ : ∃ D', D = D' + 1 := ⟨D - 1, by omega⟩
    exact ⟨_, _, h2, run_X12_firstOf g1  _ _ h1 D' (by omega)⟩
  · cases h

/-! HatRankModel of -/
noncomputable def tb_X12_of (cal : Cal SS) : List (Nat × Ins SS) := [(0, e_iload 2 1), (1, e_iconst (0) 2), (2, e_iconst (4) 3), (3, e_callS cal 149 3 6), (6, e_ifeq 100 9), (9, e_aload 0 10), (10, e_iload 1 11), (11, e_callV opsS cal 151 1 12 14), (14, e_ifne 19 17), (17, e_iconst (-1) 18), (18, e_iret), (19, e_iload 2 20), (20, e_iconst (4) 21), (21, e_cge 75 24), (24, e_iload 2 25), (25, e_ifne 37 28), (28, e_aload 0 29), (29, e_getR opsS 12 12 32), (32, e_iload 1 33), (33, e_ald opsS 100 34), (34, e_goto 74), (37, e_iload 2 38), (38, e_iconst (1) 39), (39, e_cne 51 42), (42, e_aload 0 43), (43, e_getR opsS 12 13 46), (46, e_iload 1 47), (47, e_ald opsS 100 48), (48, e_goto 74), (51, e_iload 2 52), (52, e_iconst (2) 53), (53, e_cne 65 56), (56, e_aload 0 57), (57, e_getR opsS 12 14 60), (60, e_iload 1 61), (61, e_ald opsS 100 62), (62, e_goto 74), (65, e_aload 0 66), (66, e_iload 1 67), (67, e_aload 0 68), (68, e_getR opsS 12 12 71), (71, e_callV opsS cal 188 2 12 74), (74, e_iret), (75, e_aload 0 76), (76, e_getI opsS 12 1 79), (79, e_iconst (24) 81), (81, e_cne 86 84), (84, e_iconst (-1) 85), (85, e_iret), (86, e_aload 0 87), (87, e_callV opsS cal 185 0 12 90), (90, e_aload 0 91), (91, e_iload 1 92), (92, e_aload 0 93), (93, e_getI opsS 12 1 96), (96, e_callV opsS cal 186 2 12 99), (99, e_iret), (100, e_iload 2 101), (101, e_iconst (20) 103), (103, e_cne 124 106), (106, e_iload 1 107), (107, e_callS cal 152 1 110), (110, e_ifeq 122 113), (113, e_aload 0 114), (114, e_getR opsS 12 2 117), (117, e_iload 1 118), (118, e_ald opsS 100 119), (119, e_goto 123), (122, e_iconst (-1) 123), (123, e_iret), (124, e_iload 2 125), (125, e_iconst (10) 127), (127, e_iconst (13) 129), (129, e_callS cal 149 3 132), (132, e_ifeq 143 135), (135, e_aload 0 136), (136, e_iload 1 137), (137, e_callV opsS cal 150 1 12 140), (140, e_ifne 145 143), (143, e_iconst (-1) 144), (144, e_iret), (145, e_iload 2 146), (146, e_iconst (13) 148), (148, e_cge 188 151), (151, e_iload 2 152), (152, e_iconst (10) 154), (154, e_cne 166 157), (157, e_aload 0 158), (158, e_getR opsS 12 5 161), (161, e_iload 1 162), (162, e_ald opsS 100 163), (163, e_goto 187), (166, e_iload 2 167), (167, e_iconst (11) 169), (169, e_cne 181 172), (172, e_aload 0 173), (173, e_getR opsS 12 6 176), (176, e_iload 1 177), (177, e_ald opsS 100 178), (178, e_goto 187), (181, e_aload 0 182), (182, e_getR opsS 12 7 185), (185, e_iload 1 186), (186, e_ald opsS 100 187), (187, e_iret), (188, e_aload 0 189), (189, e_getI opsS 12 1 192), (192, e_iconst (24) 194), (194, e_cne 201 197), (197, e_iconst (-1) 198), (198, e_goto 210), (201, e_aload 0 202), (202, e_iload 1 203), (203, e_aload 0 204), (204, e_getI opsS 12 1 207), (207, e_callV opsS cal 184 2 12 210), (210, e_iret)]
set_option maxRecDepth 100000 in
set_option maxHeartbeats 4000000 in
theorem tk_X12_of {ad0 : Nat → Nat} {G : Gm} {A : Nat → Prop} {p : Program} {l : Launch} {e : Env} {R : Room} {s0 : State} {m : MethodId} {args : Array Value} {below : List Frame} {meth : Method} {c : Code} {Q : State → Prop} {ρ : Type} {ret : Option Value → SS → Option ρ} {r : ρ} (X : Cx G A RX12 cX12_of 3 p s0 m args c) {D' : Nat} {cal : Cal SS} (hcal : calOK l G opsS D' cal) (hRm : ∀ k, k ≤ 21 → D' + 1 ≤ R.frames ∧ 8 + (k + 11) + 40 * D' ≤ R.locals) (hret : RetK G A cX12_of 113 6344 ad0 p l e R s0 m args below meth c Q opsS ret r .ireturn okI) : ∀ q ∈ tb_X12_of cal, OKi G A 3 113 6344 ad0 p l e R s0 m args below meth c Q opsS ret r q.1 q.2 :=
    okc (ok_iload_n (j := 2) X (by decide +kernel) rfl rfl) (
    okc (ok_iconst (n := 0) X (by decide +kernel) rfl rfl) (
    okc (ok_iconst (n := 4) X (by decide +kernel) rfl rfl) (
    okc (ok_callS (Y := (yX12_in, cX12_in, 3, (some .boolean))) X hcal opsS_n md_X12_in wc_X12_in wl_X12_134 wi_X12 ws_X12_in (by decide +kernel) (hRm 3 (by decide)) (by decide +kernel) rfl) (
    okc (ok_ifeq (off := 94) X (by decide +kernel) (by decide) rfl) (
    okc (ok_aload_n (j := 0) X (by decide +kernel) rfl rfl) (
    okc (ok_iload_n (j := 1) X (by decide +kernel) rfl rfl) (
    okc (ok_callV (ci := 12) (C := RX12) (T := TX12) (N := 63) (Y := (yX12_isPerson, cX12_isPerson, 2, (some .boolean))) X hcal opsS_n md_X12_isPerson rfl (by decide) rfl wc_X12_isPerson wl_X12_175 wi_X12 wm_X12_isPerson wv_X12_isPerson (by decide +kernel) (hRm 2 (by decide)) (by decide +kernel) rfl) (
    okc (ok_ifne (off := 5) X (by decide +kernel) (by decide) rfl) (
    okc (ok_iconst (n := -1) X (by decide +kernel) rfl rfl) (
    okc (ok_iret hret (by decide +kernel)) (
    okc (ok_iload_n (j := 2) X (by decide +kernel) rfl rfl) (
    okc (ok_iconst (n := 4) X (by decide +kernel) rfl rfl) (
    okc (ok_cge (off := 54) X (by decide +kernel) (by decide) rfl) (
    okc (ok_iload_n (j := 2) X (by decide +kernel) rfl rfl) (
    okc (ok_ifne (off := 12) X (by decide +kernel) (by decide) rfl) (
    okc (ok_aload_n (j := 0) X (by decide +kernel) rfl rfl) (
    okc (ok_getR (ci := 12) (kf := 12) (idx := 28) (C := RX12) (T := TX12) (N := 63) X rfl (by decide) inX12 (by decide) wf_X12_28 (fun _ _ _ => rfl) (by decide +kernel) rfl) (
    okc (ok_iload_n (j := 1) X (by decide +kernel) rfl rfl) (
    okc (ok_iald X (by decide +kernel) rfl) (
    okc (ok_goto (off := 40) X (by decide +kernel) (by decide)) (
    okc (ok_iload_n (j := 2) X (by decide +kernel) rfl rfl) (
    okc (ok_iconst (n := 1) X (by decide +kernel) rfl rfl) (
    okc (ok_cne (off := 12) X (by decide +kernel) (by decide) rfl) (
    okc (ok_aload_n (j := 0) X (by decide +kernel) rfl rfl) (
    okc (ok_getR (ci := 12) (kf := 13) (idx := 31) (C := RX12) (T := TX12) (N := 63) X rfl (by decide) inX12 (by decide) wf_X12_31 (fun _ _ _ => rfl) (by decide +kernel) rfl) (
    okc (ok_iload_n (j := 1) X (by decide +kernel) rfl rfl) (
    okc (ok_iald X (by decide +kernel) rfl) (
    okc (ok_goto (off := 26) X (by decide +kernel) (by decide)) (
    okc (ok_iload_n (j := 2) X (by decide +kernel) rfl rfl) (
    okc (ok_iconst (n := 2) X (by decide +kernel) rfl rfl) (
    okc (ok_cne (off := 12) X (by decide +kernel) (by decide) rfl) (
    okc (ok_aload_n (j := 0) X (by decide +kernel) rfl rfl) (
    okc (ok_getR (ci := 12) (kf := 14) (idx := 34) (C := RX12) (T := TX12) (N := 63) X rfl (by decide) inX12 (by decide) wf_X12_34 (fun _ _ _ => rfl) (by decide +kernel) rfl) (
    okc (ok_iload_n (j := 1) X (by decide +kernel) rfl rfl) (
    okc (ok_iald X (by decide +kernel) rfl) (
    okc (ok_goto (off := 12) X (by decide +kernel) (by decide)) (
    okc (ok_aload_n (j := 0) X (by decide +kernel) rfl rfl) (
    okc (ok_iload_n (j := 1) X (by decide +kernel) rfl rfl) (
    okc (ok_aload_n (j := 0) X (by decide +kernel) rfl rfl) (
    okc (ok_getR (ci := 12) (kf := 12) (idx := 28) (C := RX12) (T := TX12) (N := 63) X rfl (by decide) inX12 (by decide) wf_X12_28 (fun _ _ _ => rfl) (by decide +kernel) rfl) (
    okc (ok_callV (ci := 12) (C := RX12) (T := TX12) (N := 63) (Y := (yX12_rankOf, cX12_rankOf, 5, (some .int))) X hcal opsS_n md_X12_rankOf rfl (by decide) rfl wc_X12_rankOf wl_X12_268 wi_X12 wm_X12_rankOf wv_X12_rankOf (by decide +kernel) (hRm 5 (by decide)) (by decide +kernel) rfl) (
    okc (ok_iret hret (by decide +kernel)) (
    okc (ok_aload_n (j := 0) X (by decide +kernel) rfl rfl) (
    okc (ok_getI (ci := 12) (kf := 1) (idx := 272) (C := RX12) (T := TX12) (N := 63) X rfl (by decide) inX12 (by decide) wf_X12_272 (fun _ _ _ => rfl) (by decide +kernel) rfl) (
    okc (ok_bipush (n := 24) X (by decide +kernel) rfl rfl) (
    okc (ok_cne (off := 5) X (by decide +kernel) (by decide) rfl) (
    okc (ok_iconst (n := -1) X (by decide +kernel) rfl rfl) (
    okc (ok_iret hret (by decide +kernel)) (
    okc (ok_aload_n (j := 0) X (by decide +kernel) rfl rfl) (
    okc (ok_callV (ci := 12) (C := RX12) (T := TX12) (N := 63) (Y := (yX12_think, cX12_think, 2, none)) X hcal opsS_n md_X12_think rfl (by decide) rfl wc_X12_think wl_X12_275 wi_X12 wm_X12_think wv_X12_think (by decide +kernel) (hRm 2 (by decide)) (by decide +kernel) rfl) (
    okc (ok_aload_n (j := 0) X (by decide +kernel) rfl rfl) (
    okc (ok_iload_n (j := 1) X (by decide +kernel) rfl rfl) (
    okc (ok_aload_n (j := 0) X (by decide +kernel) rfl rfl) (
    okc (ok_getI (ci := 12) (kf := 1) (idx := 272) (C := RX12) (T := TX12) (N := 63) X rfl (by decide) inX12 (by decide) wf_X12_272 (fun _ _ _ => rfl) (by decide +kernel) rfl) (
    okc (ok_callV (ci := 12) (C := RX12) (T := TX12) (N := 63) (Y := (yX12_falls, cX12_falls, 3, (some .int))) X hcal opsS_n md_X12_falls rfl (by decide) rfl wc_X12_falls wl_X12_278 wi_X12 wm_X12_falls wv_X12_falls (by decide +kernel) (hRm 3 (by decide)) (by decide +kernel) rfl) (
    okc (ok_iret hret (by decide +kernel)) (
    okc (ok_iload_n (j := 2) X (by decide +kernel) rfl rfl) (
    okc (ok_bipush (n := 20) X (by decide +kernel) rfl rfl) (
    okc (ok_cne (off := 21) X (by decide +kernel) (by decide) rfl) (
    okc (ok_iload_n (j := 1) X (by decide +kernel) rfl rfl) (
    okc (ok_callS (Y := (yX12_isHour, cX12_isHour, 1, (some .boolean))) X hcal opsS_n md_X12_isHour wc_X12_isHour wl_X12_181 wi_X12 ws_X12_isHour (by decide +kernel) (hRm 1 (by decide)) (by decide +kernel) rfl) (
    okc (ok_ifeq (off := 12) X (by decide +kernel) (by decide) rfl) (
    okc (ok_aload_n (j := 0) X (by decide +kernel) rfl rfl) (
    okc (ok_getR (ci := 12) (kf := 2) (idx := 7) (C := RX12) (T := TX12) (N := 63) X rfl (by decide) inX12 (by decide) wf_X12_7 (fun _ _ _ => rfl) (by decide +kernel) rfl) (
    okc (ok_iload_n (j := 1) X (by decide +kernel) rfl rfl) (
    okc (ok_iald X (by decide +kernel) rfl) (
    okc (ok_goto (off := 4) X (by decide +kernel) (by decide)) (
    okc (ok_iconst (n := -1) X (by decide +kernel) rfl rfl) (
    okc (ok_iret hret (by decide +kernel)) (
    okc (ok_iload_n (j := 2) X (by decide +kernel) rfl rfl) (
    okc (ok_bipush (n := 10) X (by decide +kernel) rfl rfl) (
    okc (ok_bipush (n := 13) X (by decide +kernel) rfl rfl) (
    okc (ok_callS (Y := (yX12_in, cX12_in, 3, (some .boolean))) X hcal opsS_n md_X12_in wc_X12_in wl_X12_134 wi_X12 ws_X12_in (by decide +kernel) (hRm 3 (by decide)) (by decide +kernel) rfl) (
    okc (ok_ifeq (off := 11) X (by decide +kernel) (by decide) rfl) (
    okc (ok_aload_n (j := 0) X (by decide +kernel) rfl rfl) (
    okc (ok_iload_n (j := 1) X (by decide +kernel) rfl rfl) (
    okc (ok_callV (ci := 12) (C := RX12) (T := TX12) (N := 63) (Y := (yX12_isPlace, cX12_isPlace, 2, (some .boolean))) X hcal opsS_n md_X12_isPlace rfl (by decide) rfl wc_X12_isPlace wl_X12_144 wi_X12 wm_X12_isPlace wv_X12_isPlace (by decide +kernel) (hRm 2 (by decide)) (by decide +kernel) rfl) (
    okc (ok_ifne (off := 5) X (by decide +kernel) (by decide) rfl) (
    okc (ok_iconst (n := -1) X (by decide +kernel) rfl rfl) (
    okc (ok_iret hret (by decide +kernel)) (
    okc (ok_iload_n (j := 2) X (by decide +kernel) rfl rfl) (
    okc (ok_bipush (n := 13) X (by decide +kernel) rfl rfl) (
    okc (ok_cge (off := 40) X (by decide +kernel) (by decide) rfl) (
    okc (ok_iload_n (j := 2) X (by decide +kernel) rfl rfl) (
    okc (ok_bipush (n := 10) X (by decide +kernel) rfl rfl) (
    okc (ok_cne (off := 12) X (by decide +kernel) (by decide) rfl) (
    okc (ok_aload_n (j := 0) X (by decide +kernel) rfl rfl) (
    okc (ok_getR (ci := 12) (kf := 5) (idx := 13) (C := RX12) (T := TX12) (N := 63) X rfl (by decide) inX12 (by decide) wf_X12_13 (fun _ _ _ => rfl) (by decide +kernel) rfl) (
    okc (ok_iload_n (j := 1) X (by decide +kernel) rfl rfl) (
    okc (ok_iald X (by decide +kernel) rfl) (
    okc (ok_goto (off := 24) X (by decide +kernel) (by decide)) (
    okc (ok_iload_n (j := 2) X (by decide +kernel) rfl rfl) (
    okc (ok_bipush (n := 11) X (by decide +kernel) rfl rfl) (
    okc (ok_cne (off := 12) X (by decide +kernel) (by decide) rfl) (
    okc (ok_aload_n (j := 0) X (by decide +kernel) rfl rfl) (
    okc (ok_getR (ci := 12) (kf := 6) (idx := 16) (C := RX12) (T := TX12) (N := 63) X rfl (by decide) inX12 (by decide) wf_X12_16 (fun _ _ _ => rfl) (by decide +kernel) rfl) (
    okc (ok_iload_n (j := 1) X (by decide +kernel) rfl rfl) (
    okc (ok_iald X (by decide +kernel) rfl) (
    okc (ok_goto (off := 9) X (by decide +kernel) (by decide)) (
    okc (ok_aload_n (j := 0) X (by decide +kernel) rfl rfl) (
    okc (ok_getR (ci := 12) (kf := 7) (idx := 19) (C := RX12) (T := TX12) (N := 63) X rfl (by decide) inX12 (by decide) wf_X12_19 (fun _ _ _ => rfl) (by decide +kernel) rfl) (
    okc (ok_iload_n (j := 1) X (by decide +kernel) rfl rfl) (
    okc (ok_iald X (by decide +kernel) rfl) (
    okc (ok_iret hret (by decide +kernel)) (
    okc (ok_aload_n (j := 0) X (by decide +kernel) rfl rfl) (
    okc (ok_getI (ci := 12) (kf := 1) (idx := 272) (C := RX12) (T := TX12) (N := 63) X rfl (by decide) inX12 (by decide) wf_X12_272 (fun _ _ _ => rfl) (by decide +kernel) rfl) (
    okc (ok_bipush (n := 24) X (by decide +kernel) rfl rfl) (
    okc (ok_cne (off := 7) X (by decide +kernel) (by decide) rfl) (
    okc (ok_iconst (n := -1) X (by decide +kernel) rfl rfl) (
    okc (ok_goto (off := 12) X (by decide +kernel) (by decide)) (
    okc (ok_aload_n (j := 0) X (by decide +kernel) rfl rfl) (
    okc (ok_iload_n (j := 1) X (by decide +kernel) rfl rfl) (
    okc (ok_aload_n (j := 0) X (by decide +kernel) rfl rfl) (
    okc (ok_getI (ci := 12) (kf := 1) (idx := 272) (C := RX12) (T := TX12) (N := 63) X rfl (by decide) inX12 (by decide) wf_X12_272 (fun _ _ _ => rfl) (by decide +kernel) rfl) (
    okc (ok_callV (ci := 12) (C := RX12) (T := TX12) (N := 63) (Y := (yX12_gustAt, cX12_gustAt, 4, (some .int))) X hcal opsS_n md_X12_gustAt rfl (by decide) rfl wc_X12_gustAt wl_X12_262 wi_X12 wm_X12_gustAt wv_X12_gustAt (by decide +kernel) (hRm 4 (by decide)) (by decide +kernel) rfl) (
    okc (ok_iret hret (by decide +kernel)) (
    okn)))))))))))))))))))))))))))))))))))))))))))))))))))))))))))))))))))))))))))))))))))))))))))))))))))))))))))))))))))))
noncomputable def es_X12_of  : List (Nat × En) := [(149, en_X12_in), (151, en_X12_isPerson), (188, en_X12_rankOf), (185, en_X12_think), (186, en_X12_falls), (152, en_X12_isHour), (150, en_X12_isPlace), (184, en_X12_gustAt)]
set_option maxRecDepth 100000 in
set_option maxHeartbeats 4000000 in
theorem eq_X12_of   (a0 : Int32) (a1 : Int32) (s : SS) : ex (tb_X12_of (calE (es_X12_of))) rI [] (fun _ _ _ _ => none) 119 0 [some (.ref 74), some (.int a0), some (.int a1)] [] s = f_X12_of a0 a1 s := by
  rfl
set_option maxRecDepth 100000 in
set_option maxHeartbeats 4000000 in
theorem run_X12_of {l : Launch} {G : Gm}   (a0 : Int32) (a1 : Int32) (s : SS) (q : (Int32 × SS)) (h : f_X12_of a0 a1 s = some q) (D' : Nat) (hD : 5 ≤ D') : RunsM l G (D' + 1) (md 190) (embS s) [.ref 74, .int a0, .int a1] (some (.int q.1)) (embS q.2) := by
  rw [md_X12_of]
  refine runs_I (plainFor_of_name (by decide +kernel)) (Nat.le_of_ble_eq_true rfl) rfl ?_
  intro A p e R s0 m args below meth c Q ad0 hR X hret
  have X : Cx G A RX12 cX12_of 3 p s0 m args c := X
  have hT := tk_X12_of X (calE_ok (es := es_X12_of) (enc (en_X12_in_ok _ (by omega)) (enc (en_X12_isPerson_ok _ (by omega)) (enc (en_X12_rankOf_ok _ (by omega)) (enc (en_X12_think_ok _ (by omega)) (enc (en_X12_falls_ok _ (by omega)) (enc (en_X12_isHour_ok _ (by omega)) (enc (en_X12_isPlace_ok _ (by omega)) (enc (en_X12_gustAt_ok _ (by omega)) (enn)))))))))) (rmD rfl hR) hret
  rw [← eq_X12_of   a0 a1 s] at h
  refine ex_good hT (fun pc' ls' st' x' hh => ?_) 119 0 _ [] s h
  cases hh

noncomputable def en_X12_of  : En := fun _ av s k => match av with
  | [.ref r0, .int a0, .int a1] => (gd (Nat.beq r0 74) (bI (f_X12_of a0 a1 s) k))
  | _ => none
set_option maxRecDepth 100000 in
set_option maxHeartbeats 4000000 in
theorem en_X12_of_ok {l : Launch} {G : Gm} (D : Nat) (hD : 6 ≤ D) : enOK l G D 190 en_X12_of := by
  intro ρ av x k r h
  unfold en_X12_of at h
  split at h
  · obtain ⟨g0, h⟩ := gd_some h
    obtain ⟨q, h1, h2⟩ := bind_of h
    have e0 := beq1 g0
    subst e0
    obtain ⟨D', rfl⟩ : ∃ D', D = D' + 1 := ⟨D - 1, by omega⟩
    exact ⟨_, _, h2, run_X12_of  _ _ _ _ h1 D' (by omega)⟩
  · cases h

/-! HatRankModel takeUp -/
noncomputable def tb_X12_takeUp (cal : Cal SS) : List (Nat × Ins SS) := [(0, e_iconst (0) 1), (1, e_istore 1 2), (2, e_iload 1 3), (3, e_aload 0 4), (4, e_getI opsS 12 11 7), (7, e_cge 69 10), (10, e_aload 0 11), (11, e_getR opsS 12 36 14), (14, e_iload 1 15), (15, e_ald opsS 100 16), (16, e_iconst (9) 18), (18, e_ceq 63 21), (21, e_aload 0 22), (22, e_getR opsS 12 38 25), (25, e_aload 0 26), (26, e_getR opsS 12 37 29), (29, e_iload 1 30), (30, e_ald opsS 100 31), (31, e_ald opsS 100 32), (32, e_ifne 38 35), (35, e_goto 63), (38, e_aload 0 39), (39, e_getR opsS 12 38 42), (42, e_aload 0 43), (43, e_getR opsS 12 37 46), (46, e_iload 1 47), (47, e_ald opsS 100 48), (48, e_dup2 49), (49, e_ald opsS 100 50), (50, e_iconst (1) 51), (51, e_bin aSub 52), (52, e_ast opsS 100 (fun v => v) 53), (53, e_aload 0 54), (54, e_getR opsS 12 36 57), (57, e_iload 1 58), (58, e_dup2 59), (59, e_ald opsS 100 60), (60, e_iconst (1) 61), (61, e_bin aAdd 62), (62, e_ast opsS 100 (fun v => v) 63), (63, e_iinc 1 (1) 66), (66, e_goto 2), (69, e_vret)]
set_option maxRecDepth 100000 in
set_option maxHeartbeats 4000000 in
theorem tk_X12_takeUp {ad0 : Nat → Nat} {G : Gm} {A : Nat → Prop} {p : Program} {l : Launch} {e : Env} {R : Room} {s0 : State} {m : MethodId} {args : Array Value} {below : List Frame} {meth : Method} {c : Code} {Q : State → Prop} {ρ : Type} {ret : Option Value → SS → Option ρ} {r : ρ} (X : Cx G A RX12 cX12_takeUp 2 p s0 m args c) {D' : Nat} {cal : Cal SS} (hcal : calOK l G opsS D' cal) (hRm : ∀ k, k ≤ 21 → D' + 1 ≤ R.frames ∧ 8 + (k + 11) + 40 * D' ≤ R.locals) (hret : RetK G A cX12_takeUp 113 6344 ad0 p l e R s0 m args below meth c Q opsS ret r .return_ okV) : ∀ q ∈ tb_X12_takeUp cal, OKi G A 2 113 6344 ad0 p l e R s0 m args below meth c Q opsS ret r q.1 q.2 :=
    okc (ok_iconst (n := 0) X (by decide +kernel) rfl rfl) (
    okc (ok_istore_n (j := 1) X (by decide +kernel) rfl rfl) (
    okc (ok_iload_n (j := 1) X (by decide +kernel) rfl rfl) (
    okc (ok_aload_n (j := 0) X (by decide +kernel) rfl rfl) (
    okc (ok_getI (ci := 12) (kf := 11) (idx := 138) (C := RX12) (T := TX12) (N := 63) X rfl (by decide) inX12 (by decide) wf_X12_138 (fun _ _ _ => rfl) (by decide +kernel) rfl) (
    okc (ok_cge (off := 62) X (by decide +kernel) (by decide) rfl) (
    okc (ok_aload_n (j := 0) X (by decide +kernel) rfl rfl) (
    okc (ok_getR (ci := 12) (kf := 36) (idx := 78) (C := RX12) (T := TX12) (N := 63) X rfl (by decide) inX12 (by decide) wf_X12_78 (fun _ _ _ => rfl) (by decide +kernel) rfl) (
    okc (ok_iload_n (j := 1) X (by decide +kernel) rfl rfl) (
    okc (ok_iald X (by decide +kernel) rfl) (
    okc (ok_bipush (n := 9) X (by decide +kernel) rfl rfl) (
    okc (ok_ceq (off := 45) X (by decide +kernel) (by decide) rfl) (
    okc (ok_aload_n (j := 0) X (by decide +kernel) rfl rfl) (
    okc (ok_getR (ci := 12) (kf := 38) (idx := 84) (C := RX12) (T := TX12) (N := 63) X rfl (by decide) inX12 (by decide) wf_X12_84 (fun _ _ _ => rfl) (by decide +kernel) rfl) (
    okc (ok_aload_n (j := 0) X (by decide +kernel) rfl rfl) (
    okc (ok_getR (ci := 12) (kf := 37) (idx := 81) (C := RX12) (T := TX12) (N := 63) X rfl (by decide) inX12 (by decide) wf_X12_81 (fun _ _ _ => rfl) (by decide +kernel) rfl) (
    okc (ok_iload_n (j := 1) X (by decide +kernel) rfl rfl) (
    okc (ok_iald X (by decide +kernel) rfl) (
    okc (ok_iald X (by decide +kernel) rfl) (
    okc (ok_ifne (off := 6) X (by decide +kernel) (by decide) rfl) (
    okc (ok_goto (off := 28) X (by decide +kernel) (by decide)) (
    okc (ok_aload_n (j := 0) X (by decide +kernel) rfl rfl) (
    okc (ok_getR (ci := 12) (kf := 38) (idx := 84) (C := RX12) (T := TX12) (N := 63) X rfl (by decide) inX12 (by decide) wf_X12_84 (fun _ _ _ => rfl) (by decide +kernel) rfl) (
    okc (ok_aload_n (j := 0) X (by decide +kernel) rfl rfl) (
    okc (ok_getR (ci := 12) (kf := 37) (idx := 81) (C := RX12) (T := TX12) (N := 63) X rfl (by decide) inX12 (by decide) wf_X12_81 (fun _ _ _ => rfl) (by decide +kernel) rfl) (
    okc (ok_iload_n (j := 1) X (by decide +kernel) rfl rfl) (
    okc (ok_iald X (by decide +kernel) rfl) (
    okc (ok_dup2 X (by decide +kernel) rfl) (
    okc (ok_iald X (by decide +kernel) rfl) (
    okc (ok_iconst (n := 1) X (by decide +kernel) rfl rfl) (
    okc (ok_isub X (by decide +kernel) rfl) (
    okc (ok_iast X opsS_ok (by decide +kernel) rfl) (
    okc (ok_aload_n (j := 0) X (by decide +kernel) rfl rfl) (
    okc (ok_getR (ci := 12) (kf := 36) (idx := 78) (C := RX12) (T := TX12) (N := 63) X rfl (by decide) inX12 (by decide) wf_X12_78 (fun _ _ _ => rfl) (by decide +kernel) rfl) (
    okc (ok_iload_n (j := 1) X (by decide +kernel) rfl rfl) (
    okc (ok_dup2 X (by decide +kernel) rfl) (
    okc (ok_iald X (by decide +kernel) rfl) (
    okc (ok_iconst (n := 1) X (by decide +kernel) rfl rfl) (
    okc (ok_iadd X (by decide +kernel) rfl) (
    okc (ok_iast X opsS_ok (by decide +kernel) rfl) (
    okc (ok_iinc (n := 1) X (by decide +kernel) rfl rfl) (
    okc (ok_goto (off := -64) X (by decide +kernel) (by decide)) (
    okc (ok_vret hret (by decide +kernel)) (
    okn)))))))))))))))))))))))))))))))))))))))))))
noncomputable def es_X12_takeUp  : List (Nat × En) := []
noncomputable def ka_X12_takeUp_2   (n : Nat) : Kn SS SS := fun pc ls st s => bif Nat.beq pc 2 then (match ls, st with
    | [some y0, some (.int x1)], [] => (gd (veq y0 (.ref 74)) (F_X12_takeUp_2 n x1 s))
    | _, _ => none) else (none)
set_option maxRecDepth 100000 in
set_option maxHeartbeats 4000000 in
theorem eq_X12_takeUp_2    (n : Nat) (x1 : Int32) (s : SS) : ex (tb_X12_takeUp (calE (es_X12_takeUp))) rV [2] (ka_X12_takeUp_2   n) 45 2 [some (.ref 74), some (.int x1)] [] s = F_X12_takeUp_2   (n + 1) x1 s := by
  rfl
set_option maxRecDepth 100000 in
set_option maxHeartbeats 4000000 in
theorem gd_X12_takeUp_2 {ad0 : Nat → Nat} {G : Gm} {A : Nat → Prop} {p : Program} {l : Launch} {e : Env} {R : Room} {s0 : State} {m : MethodId} {args : Array Value} {below : List Frame} {meth : Method} {c : Code} {Q : State → Prop} {r : SS}   (hT : ∀ q ∈ tb_X12_takeUp (calE (es_X12_takeUp)), OKi G A 2 113 6344 ad0 p l e R s0 m args below meth c Q opsS rV r q.1 q.2)   : ∀ (n : Nat) (x1 : Int32) (s : SS), F_X12_takeUp_2   n x1 s = some r → Gd G A 2 113 6344 ad0 p l e R s0 m args below meth c Q opsS 2 [some (.ref 74), some (.int x1)] [] s := by
  intro n
  induction n with
  | zero =>
    intro x1 s hh
    exact absurd (show (none : Option SS) = some r from hh) (by simp)
  | succ n ih =>
    intro x1 s hh
    rw [← eq_X12_takeUp_2    n x1 s] at hh
    refine ex_good hT (fun pc' ls' st' x' hh => ?_) 45 2 _ [] s hh
    unfold ka_X12_takeUp_2 at hh
    cases hb : Nat.beq pc' 2 with
    | true =>
      rw [hb] at hh
      have e9 := beq1 hb
      subst e9
      simp only [cond_true] at hh
      split at hh
      · obtain ⟨g0, hh1⟩ := gd_some hh
        have e0 := veq_of g0
        subst e0
        exact Gd.wk (ih _ _ hh1) (Lle.eq (Lle.eq Lle.nil))
      · cases hh
    | false =>
      rw [hb] at hh
      simp only [cond_false] at hh
      cases hh

noncomputable def ka_X12_takeUp  : Kn SS SS := fun pc ls st s => bif Nat.beq pc 2 then (match ls, st with
    | [some y0, some (.int x1)], [] => (gd (veq y0 (.ref 74)) (F_X12_takeUp_2 fuel0 x1 s))
    | _, _ => none) else (none)
set_option maxRecDepth 100000 in
set_option maxHeartbeats 4000000 in
theorem eq_X12_takeUp    (s : SS) : ex (tb_X12_takeUp (calE (es_X12_takeUp))) rV [2] (ka_X12_takeUp ) 45 0 [some (.ref 74), none] [] s = f_X12_takeUp  s := by
  rfl
set_option maxRecDepth 100000 in
set_option maxHeartbeats 4000000 in
theorem run_X12_takeUp {l : Launch} {G : Gm}    (s : SS) (q : SS) (h : f_X12_takeUp  s = some q) (D' : Nat) (hD : 0 ≤ D') : RunsM l G (D' + 1) (md 191) (embS s) [.ref 74] none (embS q) := by
  rw [md_X12_takeUp]
  refine runs_V (plainFor_of_name (by decide +kernel)) (Nat.le_of_ble_eq_true rfl) rfl ?_
  intro A p e R s0 m args below meth c Q ad0 hR X hret
  have X : Cx G A RX12 cX12_takeUp 2 p s0 m args c := X
  have hT := tk_X12_takeUp X (calE_ok (es := es_X12_takeUp) (enn)) (rmD rfl hR) hret
  rw [← eq_X12_takeUp    s] at h
  refine ex_good hT (fun pc' ls' st' x' hh => ?_) 45 0 _ [] s h
  unfold ka_X12_takeUp at hh
  cases hb : Nat.beq pc' 2 with
  | true =>
    rw [hb] at hh
    have e9 := beq1 hb
    subst e9
    simp only [cond_true] at hh
    split at hh
    · obtain ⟨g0, hh1⟩ := gd_some hh
      have e0 := veq_of g0
      subst e0
      exact Gd.wk (gd_X12_takeUp_2 hT  _ _ _ hh1) (Lle.eq (Lle.eq Lle.nil))
    · cases hh
  | false =>
    rw [hb] at hh
    simp only [cond_false] at hh
    cases hh

noncomputable def en_X12_takeUp  : En := fun _ av s k => match av with
  | [.ref r0] => (gd (Nat.beq r0 74) (bV (f_X12_takeUp  s) k))
  | _ => none
set_option maxRecDepth 100000 in
set_option maxHeartbeats 4000000 in
theorem en_X12_takeUp_ok {l : Launch} {G : Gm} (D : Nat) (hD : 1 ≤ D) : enOK l G D 191 en_X12_takeUp := by
  intro ρ av x k r h
  unfold en_X12_takeUp at h
  split at h
  · obtain ⟨g0, h⟩ := gd_some h
    obtain ⟨q, h1, h2⟩ := bind_of h
    have e0 := beq1 g0
    subst e0
    obtain ⟨D', rfl⟩ : ∃ D', D = D' + 1 := ⟨D - 1, by omega⟩
    exact ⟨_, _, h2, run_X12_takeUp   _ _ h1 D' (by omega)⟩
  · cases h

/-! HatRankModel catcher -/
noncomputable def tb_X12_catcher (cal : Cal SS) : List (Nat × Ins SS) := [(0, e_iconst (1) 1), (1, e_istore 2 2), (2, e_iload 2 3), (3, e_aload 0 4), (4, e_getI opsS 12 11 7), (7, e_cge 53 10), (10, e_iload 1 11), (11, e_iload 2 12), (12, e_bin aAdd 13), (13, e_aload 0 14), (14, e_getI opsS 12 11 17), (17, e_div aRem 18), (18, e_istore 3 19), (19, e_aload 0 20), (20, e_getR opsS 12 37 23), (23, e_iload 3 24), (24, e_ald opsS 100 25), (25, e_aload 0 26), (26, e_getR opsS 12 37 29), (29, e_iload 1 30), (30, e_ald opsS 100 31), (31, e_cne 47 34), (34, e_aload 0 35), (35, e_getR opsS 12 36 38), (38, e_iload 3 39), (39, e_ald opsS 100 40), (40, e_iconst (9) 42), (42, e_cge 47 45), (45, e_iload 3 46), (46, e_iret), (47, e_iinc 2 (1) 50), (50, e_goto 2), (53, e_aload 0 54), (54, e_getR opsS 12 6 57), (57, e_aload 0 58), (58, e_getR opsS 12 37 61), (61, e_iload 1 62), (62, e_ald opsS 100 63), (63, e_ald opsS 100 64), (64, e_istore 2 65), (65, e_iload 2 66), (66, e_aload 0 67), (67, e_getR opsS 12 37 70), (70, e_iload 1 71), (71, e_ald opsS 100 72), (72, e_ceq 83 75), (75, e_aload 0 76), (76, e_iload 2 77), (77, e_callV opsS cal 150 1 12 80), (80, e_ifne 85 83), (83, e_iconst (-1) 84), (84, e_iret), (85, e_iconst (0) 86), (86, e_istore 3 87), (87, e_iload 3 88), (88, e_aload 0 89), (89, e_getI opsS 12 11 92), (92, e_cge 124 95), (95, e_aload 0 96), (96, e_getR opsS 12 37 99), (99, e_iload 3 100), (100, e_ald opsS 100 101), (101, e_iload 2 102), (102, e_cne 118 105), (105, e_aload 0 106), (106, e_getR opsS 12 36 109), (109, e_iload 3 110), (110, e_ald opsS 100 111), (111, e_iconst (9) 113), (113, e_cge 118 116), (116, e_iload 3 117), (117, e_iret), (118, e_iinc 3 (1) 121), (121, e_goto 87), (124, e_iconst (-1) 125), (125, e_iret)]
set_option maxRecDepth 100000 in
set_option maxHeartbeats 4000000 in
theorem tk_X12_catcher {ad0 : Nat → Nat} {G : Gm} {A : Nat → Prop} {p : Program} {l : Launch} {e : Env} {R : Room} {s0 : State} {m : MethodId} {args : Array Value} {below : List Frame} {meth : Method} {c : Code} {Q : State → Prop} {ρ : Type} {ret : Option Value → SS → Option ρ} {r : ρ} (X : Cx G A RX12 cX12_catcher 4 p s0 m args c) {D' : Nat} {cal : Cal SS} (hcal : calOK l G opsS D' cal) (hRm : ∀ k, k ≤ 21 → D' + 1 ≤ R.frames ∧ 8 + (k + 11) + 40 * D' ≤ R.locals) (hret : RetK G A cX12_catcher 113 6344 ad0 p l e R s0 m args below meth c Q opsS ret r .ireturn okI) : ∀ q ∈ tb_X12_catcher cal, OKi G A 4 113 6344 ad0 p l e R s0 m args below meth c Q opsS ret r q.1 q.2 :=
    okc (ok_iconst (n := 1) X (by decide +kernel) rfl rfl) (
    okc (ok_istore_n (j := 2) X (by decide +kernel) rfl rfl) (
    okc (ok_iload_n (j := 2) X (by decide +kernel) rfl rfl) (
    okc (ok_aload_n (j := 0) X (by decide +kernel) rfl rfl) (
    okc (ok_getI (ci := 12) (kf := 11) (idx := 138) (C := RX12) (T := TX12) (N := 63) X rfl (by decide) inX12 (by decide) wf_X12_138 (fun _ _ _ => rfl) (by decide +kernel) rfl) (
    okc (ok_cge (off := 46) X (by decide +kernel) (by decide) rfl) (
    okc (ok_iload_n (j := 1) X (by decide +kernel) rfl rfl) (
    okc (ok_iload_n (j := 2) X (by decide +kernel) rfl rfl) (
    okc (ok_iadd X (by decide +kernel) rfl) (
    okc (ok_aload_n (j := 0) X (by decide +kernel) rfl rfl) (
    okc (ok_getI (ci := 12) (kf := 11) (idx := 138) (C := RX12) (T := TX12) (N := 63) X rfl (by decide) inX12 (by decide) wf_X12_138 (fun _ _ _ => rfl) (by decide +kernel) rfl) (
    okc (ok_irem X (by decide +kernel) rfl) (
    okc (ok_istore_n (j := 3) X (by decide +kernel) rfl rfl) (
    okc (ok_aload_n (j := 0) X (by decide +kernel) rfl rfl) (
    okc (ok_getR (ci := 12) (kf := 37) (idx := 81) (C := RX12) (T := TX12) (N := 63) X rfl (by decide) inX12 (by decide) wf_X12_81 (fun _ _ _ => rfl) (by decide +kernel) rfl) (
    okc (ok_iload_n (j := 3) X (by decide +kernel) rfl rfl) (
    okc (ok_iald X (by decide +kernel) rfl) (
    okc (ok_aload_n (j := 0) X (by decide +kernel) rfl rfl) (
    okc (ok_getR (ci := 12) (kf := 37) (idx := 81) (C := RX12) (T := TX12) (N := 63) X rfl (by decide) inX12 (by decide) wf_X12_81 (fun _ _ _ => rfl) (by decide +kernel) rfl) (
    okc (ok_iload_n (j := 1) X (by decide +kernel) rfl rfl) (
    okc (ok_iald X (by decide +kernel) rfl) (
    okc (ok_cne (off := 16) X (by decide +kernel) (by decide) rfl) (
    okc (ok_aload_n (j := 0) X (by decide +kernel) rfl rfl) (
    okc (ok_getR (ci := 12) (kf := 36) (idx := 78) (C := RX12) (T := TX12) (N := 63) X rfl (by decide) inX12 (by decide) wf_X12_78 (fun _ _ _ => rfl) (by decide +kernel) rfl) (
    okc (ok_iload_n (j := 3) X (by decide +kernel) rfl rfl) (
    okc (ok_iald X (by decide +kernel) rfl) (
    okc (ok_bipush (n := 9) X (by decide +kernel) rfl rfl) (
    okc (ok_cge (off := 5) X (by decide +kernel) (by decide) rfl) (
    okc (ok_iload_n (j := 3) X (by decide +kernel) rfl rfl) (
    okc (ok_iret hret (by decide +kernel)) (
    okc (ok_iinc (n := 1) X (by decide +kernel) rfl rfl) (
    okc (ok_goto (off := -48) X (by decide +kernel) (by decide)) (
    okc (ok_aload_n (j := 0) X (by decide +kernel) rfl rfl) (
    okc (ok_getR (ci := 12) (kf := 6) (idx := 16) (C := RX12) (T := TX12) (N := 63) X rfl (by decide) inX12 (by decide) wf_X12_16 (fun _ _ _ => rfl) (by decide +kernel) rfl) (
    okc (ok_aload_n (j := 0) X (by decide +kernel) rfl rfl) (
    okc (ok_getR (ci := 12) (kf := 37) (idx := 81) (C := RX12) (T := TX12) (N := 63) X rfl (by decide) inX12 (by decide) wf_X12_81 (fun _ _ _ => rfl) (by decide +kernel) rfl) (
    okc (ok_iload_n (j := 1) X (by decide +kernel) rfl rfl) (
    okc (ok_iald X (by decide +kernel) rfl) (
    okc (ok_iald X (by decide +kernel) rfl) (
    okc (ok_istore_n (j := 2) X (by decide +kernel) rfl rfl) (
    okc (ok_iload_n (j := 2) X (by decide +kernel) rfl rfl) (
    okc (ok_aload_n (j := 0) X (by decide +kernel) rfl rfl) (
    okc (ok_getR (ci := 12) (kf := 37) (idx := 81) (C := RX12) (T := TX12) (N := 63) X rfl (by decide) inX12 (by decide) wf_X12_81 (fun _ _ _ => rfl) (by decide +kernel) rfl) (
    okc (ok_iload_n (j := 1) X (by decide +kernel) rfl rfl) (
    okc (ok_iald X (by decide +kernel) rfl) (
    okc (ok_ceq (off := 11) X (by decide +kernel) (by decide) rfl) (
    okc (ok_aload_n (j := 0) X (by decide +kernel) rfl rfl) (
    okc (ok_iload_n (j := 2) X (by decide +kernel) rfl rfl) (
    okc (ok_callV (ci := 12) (C := RX12) (T := TX12) (N := 63) (Y := (yX12_isPlace, cX12_isPlace, 2, (some .boolean))) X hcal opsS_n md_X12_isPlace rfl (by decide) rfl wc_X12_isPlace wl_X12_144 wi_X12 wm_X12_isPlace wv_X12_isPlace (by decide +kernel) (hRm 2 (by decide)) (by decide +kernel) rfl) (
    okc (ok_ifne (off := 5) X (by decide +kernel) (by decide) rfl) (
    okc (ok_iconst (n := -1) X (by decide +kernel) rfl rfl) (
    okc (ok_iret hret (by decide +kernel)) (
    okc (ok_iconst (n := 0) X (by decide +kernel) rfl rfl) (
    okc (ok_istore_n (j := 3) X (by decide +kernel) rfl rfl) (
    okc (ok_iload_n (j := 3) X (by decide +kernel) rfl rfl) (
    okc (ok_aload_n (j := 0) X (by decide +kernel) rfl rfl) (
    okc (ok_getI (ci := 12) (kf := 11) (idx := 138) (C := RX12) (T := TX12) (N := 63) X rfl (by decide) inX12 (by decide) wf_X12_138 (fun _ _ _ => rfl) (by decide +kernel) rfl) (
    okc (ok_cge (off := 32) X (by decide +kernel) (by decide) rfl) (
    okc (ok_aload_n (j := 0) X (by decide +kernel) rfl rfl) (
    okc (ok_getR (ci := 12) (kf := 37) (idx := 81) (C := RX12) (T := TX12) (N := 63) X rfl (by decide) inX12 (by decide) wf_X12_81 (fun _ _ _ => rfl) (by decide +kernel) rfl) (
    okc (ok_iload_n (j := 3) X (by decide +kernel) rfl rfl) (
    okc (ok_iald X (by decide +kernel) rfl) (
    okc (ok_iload_n (j := 2) X (by decide +kernel) rfl rfl) (
    okc (ok_cne (off := 16) X (by decide +kernel) (by decide) rfl) (
    okc (ok_aload_n (j := 0) X (by decide +kernel) rfl rfl) (
    okc (ok_getR (ci := 12) (kf := 36) (idx := 78) (C := RX12) (T := TX12) (N := 63) X rfl (by decide) inX12 (by decide) wf_X12_78 (fun _ _ _ => rfl) (by decide +kernel) rfl) (
    okc (ok_iload_n (j := 3) X (by decide +kernel) rfl rfl) (
    okc (ok_iald X (by decide +kernel) rfl) (
    okc (ok_bipush (n := 9) X (by decide +kernel) rfl rfl) (
    okc (ok_cge (off := 5) X (by decide +kernel) (by decide) rfl) (
    okc (ok_iload_n (j := 3) X (by decide +kernel) rfl rfl) (
    okc (ok_iret hret (by decide +kernel)) (
    okc (ok_iinc (n := 1) X (by decide +kernel) rfl rfl) (
    okc (ok_goto (off := -34) X (by decide +kernel) (by decide)) (
    okc (ok_iconst (n := -1) X (by decide +kernel) rfl rfl) (
    okc (ok_iret hret (by decide +kernel)) (
    okn))))))))))))))))))))))))))))))))))))))))))))))))))))))))))))))))))))))))))))
noncomputable def es_X12_catcher  : List (Nat × En) := [(150, en_X12_isPlace)]
noncomputable def ka_X12_catcher_87   (n : Nat) : Kn SS (Int32 × SS) := fun pc ls st s => bif Nat.beq pc 87 then (match ls, st with
    | [some y0, _, some (.int x2), some (.int x3)], [] => (gd (veq y0 (.ref 74)) (F_X12_catcher_87 n x2 x3 s))
    | _, _ => none) else (none)
set_option maxRecDepth 100000 in
set_option maxHeartbeats 4000000 in
theorem eq_X12_catcher_87    (n : Nat) (x2 : Int32) (x3 : Int32) (s : SS) : ex (tb_X12_catcher (calE (es_X12_catcher))) rI [2, 87] (ka_X12_catcher_87   n) 78 87 [some (.ref 74), none, some (.int x2), some (.int x3)] [] s = F_X12_catcher_87   (n + 1) x2 x3 s := by
  rfl
noncomputable def ka_X12_catcher_2   (n : Nat) : Kn SS (Int32 × SS) := fun pc ls st s => bif Nat.beq pc 2 then (match ls, st with
    | [some y0, some (.int x1), some (.int x2), _], [] => (gd (veq y0 (.ref 74)) (F_X12_catcher_2 n x1 x2 s))
    | _, _ => none) else (bif Nat.beq pc 87 then (match ls, st with
    | [some y0, _, some (.int x2), some (.int x3)], [] => (gd (veq y0 (.ref 74)) (F_X12_catcher_87 fuel0 x2 x3 s))
    | _, _ => none) else (none))
set_option maxRecDepth 100000 in
set_option maxHeartbeats 4000000 in
theorem eq_X12_catcher_2    (n : Nat) (x1 : Int32) (x2 : Int32) (s : SS) : ex (tb_X12_catcher (calE (es_X12_catcher))) rI [2, 87] (ka_X12_catcher_2   n) 78 2 [some (.ref 74), some (.int x1), some (.int x2), none] [] s = F_X12_catcher_2   (n + 1) x1 x2 s := by
  rfl
set_option maxRecDepth 100000 in
set_option maxHeartbeats 4000000 in
theorem gd_X12_catcher_87 {ad0 : Nat → Nat} {G : Gm} {A : Nat → Prop} {p : Program} {l : Launch} {e : Env} {R : Room} {s0 : State} {m : MethodId} {args : Array Value} {below : List Frame} {meth : Method} {c : Code} {Q : State → Prop} {r : (Int32 × SS)}   (hT : ∀ q ∈ tb_X12_catcher (calE (es_X12_catcher)), OKi G A 4 113 6344 ad0 p l e R s0 m args below meth c Q opsS rI r q.1 q.2)   : ∀ (n : Nat) (x2 : Int32) (x3 : Int32) (s : SS), F_X12_catcher_87   n x2 x3 s = some r → Gd G A 4 113 6344 ad0 p l e R s0 m args below meth c Q opsS 87 [some (.ref 74), none, some (.int x2), some (.int x3)] [] s := by
  intro n
  induction n with
  | zero =>
    intro x2 x3 s hh
    exact absurd (show (none : Option (Int32 × SS)) = some r from hh) (by simp)
  | succ n ih =>
    intro x2 x3 s hh
    rw [← eq_X12_catcher_87    n x2 x3 s] at hh
    refine ex_good hT (fun pc' ls' st' x' hh => ?_) 78 87 _ [] s hh
    unfold ka_X12_catcher_87 at hh
    cases hb : Nat.beq pc' 87 with
    | true =>
      rw [hb] at hh
      have e9 := beq1 hb
      subst e9
      simp only [cond_true] at hh
      split at hh
      · obtain ⟨g0, hh1⟩ := gd_some hh
        have e0 := veq_of g0
        subst e0
        exact Gd.wk (ih _ _ _ hh1) (Lle.eq (Lle.no (Lle.eq (Lle.eq Lle.nil))))
      · cases hh
    | false =>
      rw [hb] at hh
      simp only [cond_false] at hh
      cases hh

set_option maxRecDepth 100000 in
set_option maxHeartbeats 4000000 in
theorem gd_X12_catcher_2 {ad0 : Nat → Nat} {G : Gm} {A : Nat → Prop} {p : Program} {l : Launch} {e : Env} {R : Room} {s0 : State} {m : MethodId} {args : Array Value} {below : List Frame} {meth : Method} {c : Code} {Q : State → Prop} {r : (Int32 × SS)}   (hT : ∀ q ∈ tb_X12_catcher (calE (es_X12_catcher)), OKi G A 4 113 6344 ad0 p l e R s0 m args below meth c Q opsS rI r q.1 q.2)   : ∀ (n : Nat) (x1 : Int32) (x2 : Int32) (s : SS), F_X12_catcher_2   n x1 x2 s = some r → Gd G A 4 113 6344 ad0 p l e R s0 m args below meth c Q opsS 2 [some (.ref 74), some (.int x1), some (.int x2), none] [] s := by
  intro n
  induction n with
  | zero =>
    intro x1 x2 s hh
    exact absurd (show (none : Option (Int32 × SS)) = some r from hh) (by simp)
  | succ n ih =>
    intro x1 x2 s hh
    rw [← eq_X12_catcher_2    n x1 x2 s] at hh
    refine ex_good hT (fun pc' ls' st' x' hh => ?_) 78 2 _ [] s hh
    unfold ka_X12_catcher_2 at hh
    cases hb : Nat.beq pc' 2 with
    | true =>
      rw [hb] at hh
      have e9 := beq1 hb
      subst e9
      simp only [cond_true] at hh
      split at hh
      · obtain ⟨g0, hh1⟩ := gd_some hh
        have e0 := veq_of g0
        subst e0
        exact Gd.wk (ih _ _ _ hh1) (Lle.eq (Lle.eq (Lle.eq (Lle.no Lle.nil))))
      · cases hh
    | false =>
      rw [hb] at hh
      simp only [cond_false] at hh
      cases hb : Nat.beq pc' 87 with
      | true =>
        rw [hb] at hh
        have e9 := beq1 hb
        subst e9
        simp only [cond_true] at hh
        split at hh
        · obtain ⟨g0, hh1⟩ := gd_some hh
          have e0 := veq_of g0
          subst e0
          exact Gd.wk (gd_X12_catcher_87 hT   _ _ _ _ hh1) (Lle.eq (Lle.no (Lle.eq (Lle.eq Lle.nil))))
        · cases hh
      | false =>
        rw [hb] at hh
        simp only [cond_false] at hh
        cases hh

noncomputable def ka_X12_catcher  : Kn SS (Int32 × SS) := fun pc ls st s => bif Nat.beq pc 2 then (match ls, st with
    | [some y0, some (.int x1), some (.int x2), _], [] => (gd (veq y0 (.ref 74)) (F_X12_catcher_2 fuel0 x1 x2 s))
    | _, _ => none) else (none)
set_option maxRecDepth 100000 in
set_option maxHeartbeats 4000000 in
theorem eq_X12_catcher   (a0 : Int32) (s : SS) : ex (tb_X12_catcher (calE (es_X12_catcher))) rI [2, 87] (ka_X12_catcher ) 78 0 [some (.ref 74), some (.int a0), none, none] [] s = f_X12_catcher a0 s := by
  rfl
set_option maxRecDepth 100000 in
set_option maxHeartbeats 4000000 in
theorem run_X12_catcher {l : Launch} {G : Gm}   (a0 : Int32) (s : SS) (q : (Int32 × SS)) (h : f_X12_catcher a0 s = some q) (D' : Nat) (hD : 2 ≤ D') : RunsM l G (D' + 1) (md 192) (embS s) [.ref 74, .int a0] (some (.int q.1)) (embS q.2) := by
  rw [md_X12_catcher]
  refine runs_I (plainFor_of_name (by decide +kernel)) (Nat.le_of_ble_eq_true rfl) rfl ?_
  intro A p e R s0 m args below meth c Q ad0 hR X hret
  have X : Cx G A RX12 cX12_catcher 4 p s0 m args c := X
  have hT := tk_X12_catcher X (calE_ok (es := es_X12_catcher) (enc (en_X12_isPlace_ok _ (by omega)) (enn))) (rmD rfl hR) hret
  rw [← eq_X12_catcher   a0 s] at h
  refine ex_good hT (fun pc' ls' st' x' hh => ?_) 78 0 _ [] s h
  unfold ka_X12_catcher at hh
  cases hb : Nat.beq pc' 2 with
  | true =>
    rw [hb] at hh
    have e9 := beq1 hb
    subst e9
    simp only [cond_true] at hh
    split at hh
    · obtain ⟨g0, hh1⟩ := gd_some hh
      have e0 := veq_of g0
      subst e0
      exact Gd.wk (gd_X12_catcher_2 hT  _ _ _ _ hh1) (Lle.eq (Lle.eq (Lle.eq (Lle.no Lle.nil))))
    · cases hh
  | false =>
    rw [hb] at hh
    simp only [cond_false] at hh
    cases hh

noncomputable def en_X12_catcher  : En := fun _ av s k => match av with
  | [.ref r0, .int a0] => (gd (Nat.beq r0 74) (bI (f_X12_catcher a0 s) k))
  | _ => none
set_option maxRecDepth 100000 in
set_option maxHeartbeats 4000000 in
theorem en_X12_catcher_ok {l : Launch} {G : Gm} (D : Nat) (hD : 3 ≤ D) : enOK l G D 192 en_X12_catcher := by
  intro ρ av x k r h
  unfold en_X12_catcher at h
  split at h
  · obtain ⟨g0, h⟩ := gd_some h
    obtain ⟨q, h1, h2⟩ := bind_of h
    have e0 := beq1 g0
    subst e0
    obtain ⟨D', rfl⟩ : ∃ D', D = D' + 1 := ⟨D - 1, by omega⟩
    exact ⟨_, _, h2, run_X12_catcher  _ _ _ h1 D' (by omega)⟩
  · cases h

/-! HatRankModel fall -/
noncomputable def tb_X12_fall (cal : Cal SS) : List (Nat × Ins SS) := [(0, e_aload 0 1), (1, e_iload 1 2), (2, e_callV opsS cal 192 1 12 5), (5, e_istore 2 6), (6, e_aload 0 7), (7, e_getR opsS 12 36 10), (10, e_iload 1 11), (11, e_dup2 12), (12, e_ald opsS 100 13), (13, e_iconst (1) 14), (14, e_bin aSub 15), (15, e_ast opsS 100 (fun v => v) 16), (16, e_iload 2 17), (17, e_iflt 38 20), (20, e_aload 0 21), (21, e_getR opsS 12 36 24), (24, e_iload 2 25), (25, e_dup2 26), (26, e_ald opsS 100 27), (27, e_iconst (1) 28), (28, e_bin aAdd 29), (29, e_ast opsS 100 (fun v => v) 30), (30, e_aload 0 31), (31, e_getR opsS 12 39 34), (34, e_iload 1 35), (35, e_iload 2 36), (36, e_ast opsS 100 (fun v => v) 37), (37, e_vret), (38, e_aload 0 39), (39, e_getR opsS 12 6 42), (42, e_aload 0 43), (43, e_getR opsS 12 37 46), (46, e_iload 1 47), (47, e_ald opsS 100 48), (48, e_ald opsS 100 49), (49, e_istore 3 50), (50, e_aload 0 51), (51, e_getR opsS 12 38 54), (54, e_aload 0 55), (55, e_iload 3 56), (56, e_callV opsS cal 150 1 12 59), (59, e_ifeq 66 62), (62, e_iload 3 63), (63, e_goto 72), (66, e_aload 0 67), (67, e_getR opsS 12 37 70), (70, e_iload 1 71), (71, e_ald opsS 100 72), (72, e_dup2 73), (73, e_ald opsS 100 74), (74, e_iconst (1) 75), (75, e_bin aAdd 76), (76, e_ast opsS 100 (fun v => v) 77), (77, e_aload 0 78), (78, e_getR opsS 12 39 81), (81, e_iload 1 82), (82, e_iconst (-2) 84), (84, e_ast opsS 100 (fun v => v) 85), (85, e_vret)]
set_option maxRecDepth 100000 in
set_option maxHeartbeats 4000000 in
theorem tk_X12_fall {ad0 : Nat → Nat} {G : Gm} {A : Nat → Prop} {p : Program} {l : Launch} {e : Env} {R : Room} {s0 : State} {m : MethodId} {args : Array Value} {below : List Frame} {meth : Method} {c : Code} {Q : State → Prop} {ρ : Type} {ret : Option Value → SS → Option ρ} {r : ρ} (X : Cx G A RX12 cX12_fall 4 p s0 m args c) {D' : Nat} {cal : Cal SS} (hcal : calOK l G opsS D' cal) (hRm : ∀ k, k ≤ 21 → D' + 1 ≤ R.frames ∧ 8 + (k + 11) + 40 * D' ≤ R.locals) (hret : RetK G A cX12_fall 113 6344 ad0 p l e R s0 m args below meth c Q opsS ret r .return_ okV) : ∀ q ∈ tb_X12_fall cal, OKi G A 4 113 6344 ad0 p l e R s0 m args below meth c Q opsS ret r q.1 q.2 :=
    okc (ok_aload_n (j := 0) X (by decide +kernel) rfl rfl) (
    okc (ok_iload_n (j := 1) X (by decide +kernel) rfl rfl) (
    okc (ok_callV (ci := 12) (C := RX12) (T := TX12) (N := 63) (Y := (yX12_catcher, cX12_catcher, 4, (some .int))) X hcal opsS_n md_X12_catcher rfl (by decide) rfl wc_X12_catcher wl_X12_281 wi_X12 wm_X12_catcher wv_X12_catcher (by decide +kernel) (hRm 4 (by decide)) (by decide +kernel) rfl) (
    okc (ok_istore_n (j := 2) X (by decide +kernel) rfl rfl) (
    okc (ok_aload_n (j := 0) X (by decide +kernel) rfl rfl) (
    okc (ok_getR (ci := 12) (kf := 36) (idx := 78) (C := RX12) (T := TX12) (N := 63) X rfl (by decide) inX12 (by decide) wf_X12_78 (fun _ _ _ => rfl) (by decide +kernel) rfl) (
    okc (ok_iload_n (j := 1) X (by decide +kernel) rfl rfl) (
    okc (ok_dup2 X (by decide +kernel) rfl) (
    okc (ok_iald X (by decide +kernel) rfl) (
    okc (ok_iconst (n := 1) X (by decide +kernel) rfl rfl) (
    okc (ok_isub X (by decide +kernel) rfl) (
    okc (ok_iast X opsS_ok (by decide +kernel) rfl) (
    okc (ok_iload_n (j := 2) X (by decide +kernel) rfl rfl) (
    okc (ok_iflt (off := 21) X (by decide +kernel) (by decide) rfl) (
    okc (ok_aload_n (j := 0) X (by decide +kernel) rfl rfl) (
    okc (ok_getR (ci := 12) (kf := 36) (idx := 78) (C := RX12) (T := TX12) (N := 63) X rfl (by decide) inX12 (by decide) wf_X12_78 (fun _ _ _ => rfl) (by decide +kernel) rfl) (
    okc (ok_iload_n (j := 2) X (by decide +kernel) rfl rfl) (
    okc (ok_dup2 X (by decide +kernel) rfl) (
    okc (ok_iald X (by decide +kernel) rfl) (
    okc (ok_iconst (n := 1) X (by decide +kernel) rfl rfl) (
    okc (ok_iadd X (by decide +kernel) rfl) (
    okc (ok_iast X opsS_ok (by decide +kernel) rfl) (
    okc (ok_aload_n (j := 0) X (by decide +kernel) rfl rfl) (
    okc (ok_getR (ci := 12) (kf := 39) (idx := 87) (C := RX12) (T := TX12) (N := 63) X rfl (by decide) inX12 (by decide) wf_X12_87 (fun _ _ _ => rfl) (by decide +kernel) rfl) (
    okc (ok_iload_n (j := 1) X (by decide +kernel) rfl rfl) (
    okc (ok_iload_n (j := 2) X (by decide +kernel) rfl rfl) (
    okc (ok_iast X opsS_ok (by decide +kernel) rfl) (
    okc (ok_vret hret (by decide +kernel)) (
    okc (ok_aload_n (j := 0) X (by decide +kernel) rfl rfl) (
    okc (ok_getR (ci := 12) (kf := 6) (idx := 16) (C := RX12) (T := TX12) (N := 63) X rfl (by decide) inX12 (by decide) wf_X12_16 (fun _ _ _ => rfl) (by decide +kernel) rfl) (
    okc (ok_aload_n (j := 0) X (by decide +kernel) rfl rfl) (
    okc (ok_getR (ci := 12) (kf := 37) (idx := 81) (C := RX12) (T := TX12) (N := 63) X rfl (by decide) inX12 (by decide) wf_X12_81 (fun _ _ _ => rfl) (by decide +kernel) rfl) (
    okc (ok_iload_n (j := 1) X (by decide +kernel) rfl rfl) (
    okc (ok_iald X (by decide +kernel) rfl) (
    okc (ok_iald X (by decide +kernel) rfl) (
    okc (ok_istore_n (j := 3) X (by decide +kernel) rfl rfl) (
    okc (ok_aload_n (j := 0) X (by decide +kernel) rfl rfl) (
    okc (ok_getR (ci := 12) (kf := 38) (idx := 84) (C := RX12) (T := TX12) (N := 63) X rfl (by decide) inX12 (by decide) wf_X12_84 (fun _ _ _ => rfl) (by decide +kernel) rfl) (
    okc (ok_aload_n (j := 0) X (by decide +kernel) rfl rfl) (
    okc (ok_iload_n (j := 3) X (by decide +kernel) rfl rfl) (
    okc (ok_callV (ci := 12) (C := RX12) (T := TX12) (N := 63) (Y := (yX12_isPlace, cX12_isPlace, 2, (some .boolean))) X hcal opsS_n md_X12_isPlace rfl (by decide) rfl wc_X12_isPlace wl_X12_144 wi_X12 wm_X12_isPlace wv_X12_isPlace (by decide +kernel) (hRm 2 (by decide)) (by decide +kernel) rfl) (
    okc (ok_ifeq (off := 7) X (by decide +kernel) (by decide) rfl) (
    okc (ok_iload_n (j := 3) X (by decide +kernel) rfl rfl) (
    okc (ok_goto (off := 9) X (by decide +kernel) (by decide)) (
    okc (ok_aload_n (j := 0) X (by decide +kernel) rfl rfl) (
    okc (ok_getR (ci := 12) (kf := 37) (idx := 81) (C := RX12) (T := TX12) (N := 63) X rfl (by decide) inX12 (by decide) wf_X12_81 (fun _ _ _ => rfl) (by decide +kernel) rfl) (
    okc (ok_iload_n (j := 1) X (by decide +kernel) rfl rfl) (
    okc (ok_iald X (by decide +kernel) rfl) (
    okc (ok_dup2 X (by decide +kernel) rfl) (
    okc (ok_iald X (by decide +kernel) rfl) (
    okc (ok_iconst (n := 1) X (by decide +kernel) rfl rfl) (
    okc (ok_iadd X (by decide +kernel) rfl) (
    okc (ok_iast X opsS_ok (by decide +kernel) rfl) (
    okc (ok_aload_n (j := 0) X (by decide +kernel) rfl rfl) (
    okc (ok_getR (ci := 12) (kf := 39) (idx := 87) (C := RX12) (T := TX12) (N := 63) X rfl (by decide) inX12 (by decide) wf_X12_87 (fun _ _ _ => rfl) (by decide +kernel) rfl) (
    okc (ok_iload_n (j := 1) X (by decide +kernel) rfl rfl) (
    okc (ok_bipush (n := -2) X (by decide +kernel) rfl rfl) (
    okc (ok_iast X opsS_ok (by decide +kernel) rfl) (
    okc (ok_vret hret (by decide +kernel)) (
    okn)))))))))))))))))))))))))))))))))))))))))))))))))))))))))))
noncomputable def es_X12_fall  : List (Nat × En) := [(192, en_X12_catcher), (150, en_X12_isPlace)]
set_option maxRecDepth 100000 in
set_option maxHeartbeats 4000000 in
theorem eq_X12_fall   (a0 : Int32) (s : SS) : ex (tb_X12_fall (calE (es_X12_fall))) rV [] (fun _ _ _ _ => none) 61 0 [some (.ref 74), some (.int a0), none, none] [] s = f_X12_fall a0 s := by
  rfl
set_option maxRecDepth 100000 in
set_option maxHeartbeats 4000000 in
theorem run_X12_fall {l : Launch} {G : Gm}   (a0 : Int32) (s : SS) (q : SS) (h : f_X12_fall a0 s = some q) (D' : Nat) (hD : 3 ≤ D') : RunsM l G (D' + 1) (md 193) (embS s) [.ref 74, .int a0] none (embS q) := by
  rw [md_X12_fall]
  refine runs_V (plainFor_of_name (by decide +kernel)) (Nat.le_of_ble_eq_true rfl) rfl ?_
  intro A p e R s0 m args below meth c Q ad0 hR X hret
  have X : Cx G A RX12 cX12_fall 4 p s0 m args c := X
  have hT := tk_X12_fall X (calE_ok (es := es_X12_fall) (enc (en_X12_catcher_ok _ (by omega)) (enc (en_X12_isPlace_ok _ (by omega)) (enn)))) (rmD rfl hR) hret
  rw [← eq_X12_fall   a0 s] at h
  refine ex_good hT (fun pc' ls' st' x' hh => ?_) 61 0 _ [] s h
  cases hh

noncomputable def en_X12_fall  : En := fun _ av s k => match av with
  | [.ref r0, .int a0] => (gd (Nat.beq r0 74) (bV (f_X12_fall a0 s) k))
  | _ => none
set_option maxRecDepth 100000 in
set_option maxHeartbeats 4000000 in
theorem en_X12_fall_ok {l : Launch} {G : Gm} (D : Nat) (hD : 4 ≤ D) : enOK l G D 193 en_X12_fall := by
  intro ρ av x k r h
  unfold en_X12_fall at h
  split at h
  · obtain ⟨g0, h⟩ := gd_some h
    obtain ⟨q, h1, h2⟩ := bind_of h
    have e0 := beq1 g0
    subst e0
    obtain ⟨D', rfl⟩ : ∃ D', D = D' + 1 := ⟨D - 1, by omega⟩
    exact ⟨_, _, h2, run_X12_fall  _ _ _ h1 D' (by omega)⟩
  · cases h

