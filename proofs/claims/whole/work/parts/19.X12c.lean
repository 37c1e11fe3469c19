/-! HatRankModel goHour -/
noncomputable def tb_X12_goHour (cal : Cal SS) : List (Nat × Ins SS) := [(0, e_aload 0 1), (1, e_callV opsS cal 191 0 12 4), (4, e_iconst (0) 5), (5, e_istore 2 6), (6, e_iconst (0) 7), (7, e_istore 3 8), (8, e_iload 3 9), (9, e_aload 0 10), (10, e_getI opsS 12 11 13), (13, e_cge 87 16), (16, e_aload 0 17), (17, e_getR opsS 12 39 20), (20, e_iload 3 21), (21, e_iload 3 22), (22, e_ast opsS 100 (fun v => v) 23), (23, e_aload 0 24), (24, e_getR opsS 12 36 27), (27, e_iload 3 28), (28, e_ald opsS 100 29), (29, e_ifne 35 32), (32, e_goto 81), (35, e_aload 0 36), (36, e_aload 0 37), (37, e_getI opsS 12 40 40), (40, e_iconst (1103515245) 43), (43, e_bin aMul 44), (44, e_iconst (12345) 47), (47, e_bin aAdd 48), (48, e_putI opsS 12 40 51), (51, e_aload 0 52), (52, e_getI opsS 12 40 55), (55, e_iconst (8) 57), (57, e_bin aUshr 58), (58, e_iconst (12) 60), (60, e_div aRem 61), (61, e_aload 0 62), (62, e_iload 3 63), (63, e_iload 1 64), (64, e_callV opsS cal 186 2 12 67), (67, e_clt 73 70), (70, e_goto 81), (73, e_aload 0 74), (74, e_iload 3 75), (75, e_callV opsS cal 193 1 12 78), (78, e_iinc 2 (1) 81), (81, e_iinc 3 (1) 84), (84, e_goto 8), (87, e_iload 2 88), (88, e_iret)]
set_option maxRecDepth 100000 in
set_option maxHeartbeats 4000000 in
theorem tk_X12_goHour {ad0 : Nat → Nat} {G : Gm} {A : Nat → Prop} {p : Program} {l : Launch} {e : Env} {R : Room} {s0 : State} {m : MethodId} {args : Array Value} {below : List Frame} {meth : Method} {c : Code} {Q : State → Prop} {ρ : Type} {ret : Option Value → SS → Option ρ} {r : ρ} (X : Cx G A RX12 cX12_goHour 4 p s0 m args c) {D' : Nat} {cal : Cal SS} (hcal : calOK l G opsS D' cal) (hRm : ∀ k, k ≤ 21 → D' + 1 ≤ R.frames ∧ 8 + (k + 11) + 40 * D' ≤ R.locals) (hret : RetK G A cX12_goHour 113 6344 ad0 p l e R s0 m args below meth c Q opsS ret r .ireturn okI) : ∀ q ∈ tb_X12_goHour cal, OKi G A 4 113 6344 ad0 p l e R s0 m args below meth c Q opsS ret r q.1 q.2 :=
    okc (ok_aload_n (j := 0) X (by decide +kernel) rfl rfl) (
    okc (ok_callV (ci := 12) (C := RX12) (T := TX12) (N := 63) (Y := (yX12_takeUp, cX12_takeUp, 2, none)) X hcal opsS_n md_X12_takeUp rfl (by decide) rfl wc_X12_takeUp wl_X12_284 wi_X12 wm_X12_takeUp wv_X12_takeUp (by decide +kernel) (hRm 2 (by decide)) (by decide +kernel) rfl) (
    okc (ok_iconst (n := 0) X (by decide +kernel) rfl rfl) (
    okc (ok_istore_n (j := 2) X (by decide +kernel) rfl rfl) (
    okc (ok_iconst (n := 0) X (by decide +kernel) rfl rfl) (
    okc (ok_istore_n (j := 3) X (by decide +kernel) rfl rfl) (
    okc (ok_iload_n (j := 3) X (by decide +kernel) rfl rfl) (
    okc (ok_aload_n (j := 0) X (by decide +kernel) rfl rfl) (
    okc (ok_getI (ci := 12) (kf := 11) (idx := 138) (C := RX12) (T := TX12) (N := 63) X rfl (by decide) inX12 (by decide) wf_X12_138 (fun _ _ _ => rfl) (by decide +kernel) rfl) (
    okc (ok_cge (off := 74) X (by decide +kernel) (by decide) rfl) (
    okc (ok_aload_n (j := 0) X (by decide +kernel) rfl rfl) (
    okc (ok_getR (ci := 12) (kf := 39) (idx := 87) (C := RX12) (T := TX12) (N := 63) X rfl (by decide) inX12 (by decide) wf_X12_87 (fun _ _ _ => rfl) (by decide +kernel) rfl) (
    okc (ok_iload_n (j := 3) X (by decide +kernel) rfl rfl) (
    okc (ok_iload_n (j := 3) X (by decide +kernel) rfl rfl) (
    okc (ok_iast X opsS_ok (by decide +kernel) rfl) (
    okc (ok_aload_n (j := 0) X (by decide +kernel) rfl rfl) (
    okc (ok_getR (ci := 12) (kf := 36) (idx := 78) (C := RX12) (T := TX12) (N := 63) X rfl (by decide) inX12 (by decide) wf_X12_78 (fun _ _ _ => rfl) (by decide +kernel) rfl) (
    okc (ok_iload_n (j := 3) X (by decide +kernel) rfl rfl) (
    okc (ok_iald X (by decide +kernel) rfl) (
    okc (ok_ifne (off := 6) X (by decide +kernel) (by decide) rfl) (
    okc (ok_goto (off := 49) X (by decide +kernel) (by decide)) (
    okc (ok_aload_n (j := 0) X (by decide +kernel) rfl rfl) (
    okc (ok_aload_n (j := 0) X (by decide +kernel) rfl rfl) (
    okc (ok_getI (ci := 12) (kf := 40) (idx := 287) (C := RX12) (T := TX12) (N := 63) X rfl (by decide) inX12 (by decide) wf_X12_287 (fun _ _ _ => rfl) (by decide +kernel) rfl) (
    okc (ok_ldcw (i := 290) X (by decide +kernel) wk_X12_290 rfl) (
    okc (ok_imul X (by decide +kernel) rfl) (
    okc (ok_sipush (n := 12345) X (by decide +kernel) rfl rfl) (
    okc (ok_iadd X (by decide +kernel) rfl) (
    okc (ok_putI (ci := 12) (kf := 40) (idx := 287) (C := RX12) (T := TX12) (N := 63) X opsS_ok rfl (by decide) inX12 tyX12_ok nmX12 (by decide) wf_X12_287 rfl (fun _ _ _ => rfl) (by decide +kernel) (by decide +kernel) rfl) (
    okc (ok_aload_n (j := 0) X (by decide +kernel) rfl rfl) (
    okc (ok_getI (ci := 12) (kf := 40) (idx := 287) (C := RX12) (T := TX12) (N := 63) X rfl (by decide) inX12 (by decide) wf_X12_287 (fun _ _ _ => rfl) (by decide +kernel) rfl) (
    okc (ok_bipush (n := 8) X (by decide +kernel) rfl rfl) (
    okc (ok_iushr X (by decide +kernel) rfl) (
    okc (ok_bipush (n := 12) X (by decide +kernel) rfl rfl) (
    okc (ok_irem X (by decide +kernel) rfl) (
    okc (ok_aload_n (j := 0) X (by decide +kernel) rfl rfl) (
    okc (ok_iload_n (j := 3) X (by decide +kernel) rfl rfl) (
    okc (ok_iload_n (j := 1) X (by decide +kernel) rfl rfl) (
    okc (ok_callV (ci := 12) (C := RX12) (T := TX12) (N := 63) (Y := (yX12_falls, cX12_falls, 3, (some .int))) X hcal opsS_n md_X12_falls rfl (by decide) rfl wc_X12_falls wl_X12_278 wi_X12 wm_X12_falls wv_X12_falls (by decide +kernel) (hRm 3 (by decide)) (by decide +kernel) rfl) (
    okc (ok_clt (off := 6) X (by decide +kernel) (by decide) rfl) (
    okc (ok_goto (off := 11) X (by decide +kernel) (by decide)) (
    okc (ok_aload_n (j := 0) X (by decide +kernel) rfl rfl) (
    okc (ok_iload_n (j := 3) X (by decide +kernel) rfl rfl) (
    okc (ok_callV (ci := 12) (C := RX12) (T := TX12) (N := 63) (Y := (yX12_fall, cX12_fall, 4, none)) X hcal opsS_n md_X12_fall rfl (by decide) rfl wc_X12_fall wl_X12_291 wi_X12 wm_X12_fall wv_X12_fall (by decide +kernel) (hRm 4 (by decide)) (by decide +kernel) rfl) (
    okc (ok_iinc (n := 1) X (by decide +kernel) rfl rfl) (
    okc (ok_iinc (n := 1) X (by decide +kernel) rfl rfl) (
    okc (ok_goto (off := -76) X (by decide +kernel) (by decide)) (
    okc (ok_iload_n (j := 2) X (by decide +kernel) rfl rfl) (
    okc (ok_iret hret (by decide +kernel)) (
    okn)))))))))))))))))))))))))))))))))))))))))))))))))
noncomputable def es_X12_goHour  : List (Nat × En) := [(191, en_X12_takeUp), (186, en_X12_falls), (193, en_X12_fall)]
noncomputable def ka_X12_goHour_8   (n : Nat) : Kn SS (Int32 × SS) := fun pc ls st s => bif Nat.beq pc 8 then (match ls, st with
    | [some y0, some (.int x1), some (.int x2), some (.int x3)], [] => (gd (veq y0 (.ref 74)) (F_X12_goHour_8 n x1 x2 x3 s))
    | _, _ => none) else (none)
set_option maxRecDepth 100000 in
set_option maxHeartbeats 4000000 in
theorem eq_X12_goHour_8    (n : Nat) (x1 : Int32) (x2 : Int32) (x3 : Int32) (s : SS) : ex (tb_X12_goHour (calE (es_X12_goHour))) rI [8] (ka_X12_goHour_8   n) 51 8 [some (.ref 74), some (.int x1), some (.int x2), some (.int x3)] [] s = F_X12_goHour_8   (n + 1) x1 x2 x3 s := by
  rfl
set_option maxRecDepth 100000 in
set_option maxHeartbeats 4000000 in
theorem gd_X12_goHour_8 {ad0 : Nat → Nat} {G : Gm} {A : Nat → Prop} {p : Program} {l : Launch} {e : Env} {R : Room} {s0 : State} {m : MethodId} {args : Array Value} {below : List Frame} {meth : Method} {c : Code} {Q : State → Prop} {r : (Int32 × SS)}   (hT : ∀ q ∈ tb_X12_goHour (calE (es_X12_goHour)), OKi G A 4 113 6344 ad0 p l e R s0 m args below meth c Q opsS rI r q.1 q.2)   : ∀ (n : Nat) (x1 : Int32) (x2 : Int32) (x3 : Int32) (s : SS), F_X12_goHour_8   n x1 x2 x3 s = some r → Gd G A 4 113 6344 ad0 p l e R s0 m args below meth c Q opsS 8 [some (.ref 74), some (.int x1), some (.int x2), some (.int x3)] [] s := by
  intro n
  induction n with
  | zero =>
    intro x1 x2 x3 s hh
    exact absurd (show (none : Option (Int32 × SS)) = some r from hh) (by simp)
  | succ n ih =>
    intro x1 x2 x3 s hh
    rw [← eq_X12_goHour_8    n x1 x2 x3 s] at hh
    refine ex_good hT (fun pc' ls' st' x' hh => ?_) 51 8 _ [] s hh
    unfold ka_X12_goHour_8 at hh
    cases hb : Nat.beq pc' 8 with
    | true =>
      rw [hb] at hh
      have e9 := beq1 hb
      subst e9
      simp only [cond_true] at hh
      split at hh
      · obtain ⟨g0, hh1⟩ := gd_some hh
        have e0 := veq_of g0
        subst e0
        exact Gd.wk (ih _ _ _ _ hh1) (Lle.eq (Lle.eq (Lle.eq (Lle.eq Lle.nil))))
      · cases hh
    | false =>
      rw [hb] at hh
      simp only [cond_false] at hh
      cases hh

noncomputable def ka_X12_goHour  : Kn SS (Int32 × SS) := fun pc ls st s => bif Nat.beq pc 8 then (match ls, st with
    | [some y0, some (.int x1), some (.int x2), some (.int x3)], [] => (gd (veq y0 (.ref 74)) (F_X12_goHour_8 fuel0 x1 x2 x3 s))
    | _, _ => none) else (none)
set_option maxRecDepth 100000 in
set_option maxHeartbeats 4000000 in
theorem eq_X12_goHour   (a0 : Int32) (s : SS) : ex (tb_X12_goHour (calE (es_X12_goHour))) rI [8] (ka_X12_goHour ) 51 0 [some (.ref 74), some (.int a0), none, none] [] s = f_X12_goHour a0 s := by
  rfl
set_option maxRecDepth 100000 in
set_option maxHeartbeats 4000000 in
theorem run_X12_goHour {l : Launch} {G : Gm}   (a0 : Int32) (s : SS) (q : (Int32 × SS)) (h : f_X12_goHour a0 s = some q) (D' : Nat) (hD : 5 ≤ D') : RunsM l G (D' + 1) (md 194) (embS s) [.ref 74, .int a0] (some (.int q.1)) (embS q.2) := by
  rw [md_X12_goHour]
  refine runs_I (plainFor_of_name (by decide +kernel)) (Nat.le_of_ble_eq_true rfl) rfl ?_
  intro A p e R s0 m args below meth c Q ad0 hR X hret
  have X : Cx G A RX12 cX12_goHour 4 p s0 m args c := X
  have hT := tk_X12_goHour X (calE_ok (es := es_X12_goHour) (enc (en_X12_takeUp_ok _ (by omega)) (enc (en_X12_falls_ok _ (by omega)) (enc (en_X12_fall_ok _ (by omega)) (enn))))) (rmD rfl hR) hret
  rw [← eq_X12_goHour   a0 s] at h
  refine ex_good hT (fun pc' ls' st' x' hh => ?_) 51 0 _ [] s h
  unfold ka_X12_goHour at hh
  cases hb : Nat.beq pc' 8 with
  | true =>
    rw [hb] at hh
    have e9 := beq1 hb
    subst e9
    simp only [cond_true] at hh
    split at hh
    · obtain ⟨g0, hh1⟩ := gd_some hh
      have e0 := veq_of g0
      subst e0
      exact Gd.wk (gd_X12_goHour_8 hT  _ _ _ _ _ hh1) (Lle.eq (Lle.eq (Lle.eq (Lle.eq Lle.nil))))
    · cases hh
  | false =>
    rw [hb] at hh
    simp only [cond_false] at hh
    cases hh

noncomputable def en_X12_goHour  : En := fun _ av s k => match av with
  | [.ref r0, .int a0] => (gd (Nat.beq r0 74) (bI (f_X12_goHour a0 s) k))
  | _ => none
set_option maxRecDepth 100000 in
set_option maxHeartbeats 4000000 in
theorem en_X12_goHour_ok {l : Launch} {G : Gm} (D : Nat) (hD : 6 ≤ D) : enOK l G D 194 en_X12_goHour := by
  intro ρ av x k r h
  unfold en_X12_goHour at h
  split at h
  · obtain ⟨g0, h⟩ := gd_some h
    obtain ⟨q, h1, h2⟩ := bind_of h
    have e0 := beq1 g0
    subst e0
    obtain ⟨D', rfl⟩ : ∃ D', D = D' + 1 := ⟨D - 1, by omega⟩
    exact ⟨_, _, h2, run_X12_goHour  _ _ _ h1 D' (by omega)⟩
  · cases h

/-! HatRankModel go -/
noncomputable def tb_X12_go (cal : Cal SS) : List (Nat × Ins SS) := [(0, e_iload 2 1), (1, e_iconst (1) 2), (2, e_iconst (24) 4), (4, e_callS cal 149 3 7), (7, e_ifne 12 10), (10, e_iconst (-1) 11), (11, e_iret), (12, e_aload 0 13), (13, e_getI opsS 12 1 16), (16, e_iload 2 17), (17, e_bin aAdd 18), (18, e_iconst (24) 20), (20, e_cle 26 23), (23, e_iconst (-5) 25), (25, e_iret), (26, e_aload 0 27), (27, e_callV opsS cal 185 0 12 30), (30, e_aload 0 31), (31, e_iload 1 32), (32, e_putI opsS 12 40 35), (35, e_iconst (0) 36), (36, e_istore 3 37), (37, e_iconst (0) 38), (38, e_istore 4 40), (40, e_iload 4 42), (42, e_iload 2 43), (43, e_cge 66 46), (46, e_iload 3 47), (47, e_aload 0 48), (48, e_aload 0 49), (49, e_getI opsS 12 1 52), (52, e_iload 4 54), (54, e_bin aAdd 55), (55, e_callV opsS cal 194 1 12 58), (58, e_bin aAdd 59), (59, e_istore 3 60), (60, e_iinc 4 (1) 63), (63, e_goto 40), (66, e_aload 0 67), (67, e_dup 68), (68, e_getI opsS 12 1 71), (71, e_iload 2 72), (72, e_bin aAdd 73), (73, e_putI opsS 12 1 76), (76, e_iconst (0) 77), (77, e_istore 4 79), (79, e_iload 4 81), (81, e_aload 0 82), (82, e_getI opsS 12 11 85), (85, e_cge 122 88), (88, e_aload 0 89), (89, e_getR opsS 12 12 92), (92, e_iload 4 94), (94, e_aload 0 95), (95, e_getR opsS 12 36 98), (98, e_iload 4 100), (100, e_ald opsS 100 101), (101, e_ast opsS 100 (fun v => v) 102), (102, e_aload 0 103), (103, e_getR opsS 12 15 106), (106, e_iload 4 108), (108, e_aload 0 109), (109, e_getR opsS 12 39 112), (112, e_iload 4 114), (114, e_ald opsS 100 115), (115, e_ast opsS 100 (fun v => v) 116), (116, e_iinc 4 (1) 119), (119, e_goto 79), (122, e_iconst (0) 123), (123, e_istore 4 125), (125, e_iload 4 127), (127, e_aload 0 128), (128, e_getI opsS 12 4 131), (131, e_cge 154 134), (134, e_aload 0 135), (135, e_getR opsS 12 7 138), (138, e_iload 4 140), (140, e_aload 0 141), (141, e_getR opsS 12 38 144), (144, e_iload 4 146), (146, e_ald opsS 100 147), (147, e_ast opsS 100 (fun v => v) 148), (148, e_iinc 4 (1) 151), (151, e_goto 125), (154, e_iload 3 155), (155, e_iret)]
set_option maxRecDepth 100000 in
set_option maxHeartbeats 4000000 in
theorem tk_X12_go {ad0 : Nat → Nat} {G : Gm} {A : Nat → Prop} {p : Program} {l : Launch} {e : Env} {R : Room} {s0 : State} {m : MethodId} {args : Array Value} {below : List Frame} {meth : Method} {c : Code} {Q : State → Prop} {ρ : Type} {ret : Option Value → SS → Option ρ} {r : ρ} (X : Cx G A RX12 cX12_go 5 p s0 m args c) {D' : Nat} {cal : Cal SS} (hcal : calOK l G opsS D' cal) (hRm : ∀ k, k ≤ 21 → D' + 1 ≤ R.frames ∧ 8 + (k + 11) + 40 * D' ≤ R.locals) (hret : RetK G A cX12_go 113 6344 ad0 p l e R s0 m args below meth c Q opsS ret r .ireturn okI) : ∀ q ∈ tb_X12_go cal, OKi G A 5 113 6344 ad0 p l e R s0 m args below meth c Q opsS ret r q.1 q.2 :=
    okc (ok_iload_n (j := 2) X (by decide +kernel) rfl rfl) (
    okc (ok_iconst (n := 1) X (by decide +kernel) rfl rfl) (
    okc (ok_bipush (n := 24) X (by decide +kernel) rfl rfl) (
    okc (ok_callS (Y := (yX12_in, cX12_in, 3, (some .boolean))) X hcal opsS_n md_X12_in wc_X12_in wl_X12_134 wi_X12 ws_X12_in (by decide +kernel) (hRm 3 (by decide)) (by decide +kernel) rfl) (
    okc (ok_ifne (off := 5) X (by decide +kernel) (by decide) rfl) (
    okc (ok_iconst (n := -1) X (by decide +kernel) rfl rfl) (
    okc (ok_iret hret (by decide +kernel)) (
    okc (ok_aload_n (j := 0) X (by decide +kernel) rfl rfl) (
    okc (ok_getI (ci := 12) (kf := 1) (idx := 272) (C := RX12) (T := TX12) (N := 63) X rfl (by decide) inX12 (by decide) wf_X12_272 (fun _ _ _ => rfl) (by decide +kernel) rfl) (
    okc (ok_iload_n (j := 2) X (by decide +kernel) rfl rfl) (
    okc (ok_iadd X (by decide +kernel) rfl) (
    okc (ok_bipush (n := 24) X (by decide +kernel) rfl rfl) (
    okc (ok_cle (off := 6) X (by decide +kernel) (by decide) rfl) (
    okc (ok_bipush (n := -5) X (by decide +kernel) rfl rfl) (
    okc (ok_iret hret (by decide +kernel)) (
    okc (ok_aload_n (j := 0) X (by decide +kernel) rfl rfl) (
    okc (ok_callV (ci := 12) (C := RX12) (T := TX12) (N := 63) (Y := (yX12_think, cX12_think, 2, none)) X hcal opsS_n md_X12_think rfl (by decide) rfl wc_X12_think wl_X12_275 wi_X12 wm_X12_think wv_X12_think (by decide +kernel) (hRm 2 (by decide)) (by decide +kernel) rfl) (
    okc (ok_aload_n (j := 0) X (by decide +kernel) rfl rfl) (
    okc (ok_iload_n (j := 1) X (by decide +kernel) rfl rfl) (
    okc (ok_putI (ci := 12) (kf := 40) (idx := 287) (C := RX12) (T := TX12) (N := 63) X opsS_ok rfl (by decide) inX12 tyX12_ok nmX12 (by decide) wf_X12_287 rfl (fun _ _ _ => rfl) (by decide +kernel) (by decide +kernel) rfl) (
    okc (ok_iconst (n := 0) X (by decide +kernel) rfl rfl) (
    okc (ok_istore_n (j := 3) X (by decide +kernel) rfl rfl) (
    okc (ok_iconst (n := 0) X (by decide +kernel) rfl rfl) (
    okc (ok_istore X (by decide +kernel) rfl) (
    okc (ok_iload X (by decide +kernel) rfl) (
    okc (ok_iload_n (j := 2) X (by decide +kernel) rfl rfl) (
    okc (ok_cge (off := 23) X (by decide +kernel) (by decide) rfl) (
    okc (ok_iload_n (j := 3) X (by decide +kernel) rfl rfl) (
    okc (ok_aload_n (j := 0) X (by decide +kernel) rfl rfl) (
    okc (ok_aload_n (j := 0) X (by decide +kernel) rfl rfl) (
    okc (ok_getI (ci := 12) (kf := 1) (idx := 272) (C := RX12) (T := TX12) (N := 63) X rfl (by decide) inX12 (by decide) wf_X12_272 (fun _ _ _ => rfl) (by decide +kernel) rfl) (
    okc (ok_iload X (by decide +kernel) rfl) (
    okc (ok_iadd X (by decide +kernel) rfl) (
    okc (ok_callV (ci := 12) (C := RX12) (T := TX12) (N := 63) (Y := (yX12_goHour, cX12_goHour, 4, (some .int))) X hcal opsS_n md_X12_goHour rfl (by decide) rfl wc_X12_goHour wl_X12_295 wi_X12 wm_X12_goHour wv_X12_goHour (by decide +kernel) (hRm 4 (by decide)) (by decide +kernel) rfl) (
    okc (ok_iadd X (by decide +kernel) rfl) (
    okc (ok_istore_n (j := 3) X (by decide +kernel) rfl rfl) (
    okc (ok_iinc (n := 1) X (by decide +kernel) rfl rfl) (
    okc (ok_goto (off := -23) X (by decide +kernel) (by decide)) (
    okc (ok_aload_n (j := 0) X (by decide +kernel) rfl rfl) (
    okc (ok_dup X (by decide +kernel) rfl) (
    okc (ok_getI (ci := 12) (kf := 1) (idx := 272) (C := RX12) (T := TX12) (N := 63) X rfl (by decide) inX12 (by decide) wf_X12_272 (fun _ _ _ => rfl) (by decide +kernel) rfl) (
    okc (ok_iload_n (j := 2) X (by decide +kernel) rfl rfl) (
    okc (ok_iadd X (by decide +kernel) rfl) (
    okc (ok_putI (ci := 12) (kf := 1) (idx := 272) (C := RX12) (T := TX12) (N := 63) X opsS_ok rfl (by decide) inX12 tyX12_ok nmX12 (by decide) wf_X12_272 rfl (fun _ _ _ => rfl) (by decide +kernel) (by decide +kernel) rfl) (
    okc (ok_iconst (n := 0) X (by decide +kernel) rfl rfl) (
    okc (ok_istore X (by decide +kernel) rfl) (
    okc (ok_iload X (by decide +kernel) rfl) (
    okc (ok_aload_n (j := 0) X (by decide +kernel) rfl rfl) (
    okc (ok_getI (ci := 12) (kf := 11) (idx := 138) (C := RX12) (T := TX12) (N := 63) X rfl (by decide) inX12 (by decide) wf_X12_138 (fun _ _ _ => rfl) (by decide +kernel) rfl) (
    okc (ok_cge (off := 37) X (by decide +kernel) (by decide) rfl) (
    okc (ok_aload_n (j := 0) X (by decide +kernel) rfl rfl) (
    okc (ok_getR (ci := 12) (kf := 12) (idx := 28) (C := RX12) (T := TX12) (N := 63) X rfl (by decide) inX12 (by decide) wf_X12_28 (fun _ _ _ => rfl) (by decide +kernel) rfl) (
    okc (ok_iload X (by decide +kernel) rfl) (
    okc (ok_aload_n (j := 0) X (by decide +kernel) rfl rfl) (
    okc (ok_getR (ci := 12) (kf := 36) (idx := 78) (C := RX12) (T := TX12) (N := 63) X rfl (by decide) inX12 (by decide) wf_X12_78 (fun _ _ _ => rfl) (by decide +kernel) rfl) (
    okc (ok_iload X (by decide +kernel) rfl) (
    okc (ok_iald X (by decide +kernel) rfl) (
    okc (ok_iast X opsS_ok (by decide +kernel) rfl) (
    okc (ok_aload_n (j := 0) X (by decide +kernel) rfl rfl) (
    okc (ok_getR (ci := 12) (kf := 15) (idx := 37) (C := RX12) (T := TX12) (N := 63) X rfl (by decide) inX12 (by decide) wf_X12_37 (fun _ _ _ => rfl) (by decide +kernel) rfl) (
    okc (ok_iload X (by decide +kernel) rfl) (
    okc (ok_aload_n (j := 0) X (by decide +kernel) rfl rfl) (
    okc (ok_getR (ci := 12) (kf := 39) (idx := 87) (C := RX12) (T := TX12) (N := 63) X rfl (by decide) inX12 (by decide) wf_X12_87 (fun _ _ _ => rfl) (by decide +kernel) rfl) (
    okc (ok_iload X (by decide +kernel) rfl) (
    okc (ok_iald X (by decide +kernel) rfl) (
    okc (ok_iast X opsS_ok (by decide +kernel) rfl) (
    okc (ok_iinc (n := 1) X (by decide +kernel) rfl rfl) (
    okc (ok_goto (off := -40) X (by decide +kernel) (by decide)) (
    okc (ok_iconst (n := 0) X (by decide +kernel) rfl rfl) (
    okc (ok_istore X (by decide +kernel) rfl) (
    okc (ok_iload X (by decide +kernel) rfl) (
    okc (ok_aload_n (j := 0) X (by decide +kernel) rfl rfl) (
    okc (ok_getI (ci := 12) (kf := 4) (idx := 131) (C := RX12) (T := TX12) (N := 63) X rfl (by decide) inX12 (by decide) wf_X12_131 (fun _ _ _ => rfl) (by decide +kernel) rfl) (
    okc (ok_cge (off := 23) X (by decide +kernel) (by decide) rfl) (
    okc (ok_aload_n (j := 0) X (by decide +kernel) rfl rfl) (
    okc (ok_getR (ci := 12) (kf := 7) (idx := 19) (C := RX12) (T := TX12) (N := 63) X rfl (by decide) inX12 (by decide) wf_X12_19 (fun _ _ _ => rfl) (by decide +kernel) rfl) (
    okc (ok_iload X (by decide +kernel) rfl) (
    okc (ok_aload_n (j := 0) X (by decide +kernel) rfl rfl) (
    okc (ok_getR (ci := 12) (kf := 38) (idx := 84) (C := RX12) (T := TX12) (N := 63) X rfl (by decide) inX12 (by decide) wf_X12_84 (fun _ _ _ => rfl) (by decide +kernel) rfl) (
    okc (ok_iload X (by decide +kernel) rfl) (
    okc (ok_iald X (by decide +kernel) rfl) (
    okc (ok_iast X opsS_ok (by decide +kernel) rfl) (
    okc (ok_iinc (n := 1) X (by decide +kernel) rfl rfl) (
    okc (ok_goto (off := -26) X (by decide +kernel) (by decide)) (
    okc (ok_iload_n (j := 3) X (by decide +kernel) rfl rfl) (
    okc (ok_iret hret (by decide +kernel)) (
    okn))))))))))))))))))))))))))))))))))))))))))))))))))))))))))))))))))))))))))))))))))))))
noncomputable def es_X12_go  : List (Nat × En) := [(149, en_X12_in), (185, en_X12_think), (194, en_X12_goHour)]
noncomputable def ka_X12_go_125   (n : Nat) : Kn SS (Int32 × SS) := fun pc ls st s => bif Nat.beq pc 125 then (match ls, st with
    | [some y0, _, _, some (.int x3), some (.int x4)], [] => (gd (veq y0 (.ref 74)) (F_X12_go_125 n x3 x4 s))
    | _, _ => none) else (none)
set_option maxRecDepth 100000 in
set_option maxHeartbeats 4000000 in
theorem eq_X12_go_125    (n : Nat) (x3 : Int32) (x4 : Int32) (s : SS) : ex (tb_X12_go (calE (es_X12_go))) rI [40, 79, 125] (ka_X12_go_125   n) 88 125 [some (.ref 74), none, none, some (.int x3), some (.int x4)] [] s = F_X12_go_125   (n + 1) x3 x4 s := by
  rfl
noncomputable def ka_X12_go_79   (n : Nat) : Kn SS (Int32 × SS) := fun pc ls st s => bif Nat.beq pc 79 then (match ls, st with
    | [some y0, _, _, some (.int x3), some (.int x4)], [] => (gd (veq y0 (.ref 74)) (F_X12_go_79 n x3 x4 s))
    | _, _ => none) else (bif Nat.beq pc 125 then (match ls, st with
    | [some y0, _, _, some (.int x3), some (.int x4)], [] => (gd (veq y0 (.ref 74)) (F_X12_go_125 fuel0 x3 x4 s))
    | _, _ => none) else (none))
set_option maxRecDepth 100000 in
set_option maxHeartbeats 4000000 in
theorem eq_X12_go_79    (n : Nat) (x3 : Int32) (x4 : Int32) (s : SS) : ex (tb_X12_go (calE (es_X12_go))) rI [40, 79, 125] (ka_X12_go_79   n) 88 79 [some (.ref 74), none, none, some (.int x3), some (.int x4)] [] s = F_X12_go_79   (n + 1) x3 x4 s := by
  rfl
noncomputable def ka_X12_go_40   (n : Nat) : Kn SS (Int32 × SS) := fun pc ls st s => bif Nat.beq pc 40 then (match ls, st with
    | [some y0, _, some (.int x2), some (.int x3), some (.int x4)], [] => (gd (veq y0 (.ref 74)) (F_X12_go_40 n x2 x3 x4 s))
    | _, _ => none) else (bif Nat.beq pc 79 then (match ls, st with
    | [some y0, _, _, some (.int x3), some (.int x4)], [] => (gd (veq y0 (.ref 74)) (F_X12_go_79 fuel0 x3 x4 s))
    | _, _ => none) else (none))
set_option maxRecDepth 100000 in
set_option maxHeartbeats 4000000 in
theorem eq_X12_go_40    (n : Nat) (x2 : Int32) (x3 : Int32) (x4 : Int32) (s : SS) : ex (tb_X12_go (calE (es_X12_go))) rI [40, 79, 125] (ka_X12_go_40   n) 88 40 [some (.ref 74), none, some (.int x2), some (.int x3), some (.int x4)] [] s = F_X12_go_40   (n + 1) x2 x3 x4 s := by
  rfl
set_option maxRecDepth 100000 in
set_option maxHeartbeats 4000000 in
theorem gd_X12_go_125 {ad0 : Nat → Nat} {G : Gm} {A : Nat → Prop} {p : Program} {l : Launch} {e : Env} {R : Room} {s0 : State} {m : MethodId} {args : Array Value} {below : List Frame} {meth : Method} {c : Code} {Q : State → Prop} {r : (Int32 × SS)}   (hT : ∀ q ∈ tb_X12_go (calE (es_X12_go)), OKi G A 5 113 6344 ad0 p l e R s0 m args below meth c Q opsS rI r q.1 q.2)   : ∀ (n : Nat) (x3 : Int32) (x4 : Int32) (s : SS), F_X12_go_125   n x3 x4 s = some r → Gd G A 5 113 6344 ad0 p l e R s0 m args below meth c Q opsS 125 [some (.ref 74), none, none, some (.int x3), some (.int x4)] [] s := by
  intro n
  induction n with
  | zero =>
    intro x3 x4 s hh
    exact absurd (show (none : Option (Int32 × SS)) = some r from hh) (by simp)
  | succ n ih =>
    intro x3 x4 s hh
    rw [← eq_X12_go_125    n x3 x4 s] at hh
    refine ex_good hT (fun pc' ls' st' x' hh => ?_) 88 125 _ [] s hh
    unfold ka_X12_go_125 at hh
    cases hb : Nat.beq pc' 125 with
    | true =>
      rw [hb] at hh
      have e9 := beq1 hb
      subst e9
      simp only [cond_true] at hh
      split at hh
      · obtain ⟨g0, hh1⟩ := gd_some hh
        have e0 := veq_of g0
        subst e0
        exact Gd.wk (ih _ _ _ hh1) (Lle.eq (Lle.no (Lle.no (Lle.eq (Lle.eq Lle.nil)))))
      · cases hh
    | false =>
      rw [hb] at hh
      simp only [cond_false] at hh
      cases hh

set_option maxRecDepth 100000 in
set_option maxHeartbeats 4000000 in
theorem gd_X12_go_79 {ad0 : Nat → Nat} {G : Gm} {A : Nat → Prop} {p : Program} {l : Launch} {e : Env} {R : Room} {s0 : State} {m : MethodId} {args : Array Value} {below : List Frame} {meth : Method} {c : Code} {Q : State → Prop} {r : (Int32 × SS)}   (hT : ∀ q ∈ tb_X12_go (calE (es_X12_go)), OKi G A 5 113 6344 ad0 p l e R s0 m args below meth c Q opsS rI r q.1 q.2)   : ∀ (n : Nat) (x3 : Int32) (x4 : Int32) (s : SS), F_X12_go_79   n x3 x4 s = some r → Gd G A 5 113 6344 ad0 p l e R s0 m args below meth c Q opsS 79 [some (.ref 74), none, none, some (.int x3), some (.int x4)] [] s := by
  intro n
  induction n with
  | zero =>
    intro x3 x4 s hh
    exact absurd (show (none : Option (Int32 × SS)) = some r from hh) (by simp)
  | succ n ih =>
    intro x3 x4 s hh
    rw [← eq_X12_go_79    n x3 x4 s] at hh
    refine ex_good hT (fun pc' ls' st' x' hh => ?_) 88 79 _ [] s hh
    unfold ka_X12_go_79 at hh
    cases hb : Nat.beq pc' 79 with
    | true =>
      rw [hb] at hh
      have e9 := beq1 hb
      subst e9
      simp only [cond_true] at hh
      split at hh
      · obtain ⟨g0, hh1⟩ := gd_some hh
        have e0 := veq_of g0
        subst e0
        exact Gd.wk (ih _ _ _ hh1) (Lle.eq (Lle.no (Lle.no (Lle.eq (Lle.eq Lle.nil)))))
      · cases hh
    | false =>
      rw [hb] at hh
      simp only [cond_false] at hh
      cases hb : Nat.beq pc' 125 with
      | true =>
        rw [hb] at hh
        have e9 := beq1 hb
        subst e9
        simp only [cond_true] at hh
        split at hh
        · obtain ⟨g0, hh1⟩ := gd_some hh
          have e0 := veq_of g0
          subst e0
          exact Gd.wk (gd_X12_go_125 hT   _ _ _ _ hh1) (Lle.eq (Lle.no (Lle.no (Lle.eq (Lle.eq Lle.nil)))))
        · cases hh
      | false =>
        rw [hb] at hh
        simp only [cond_false] at hh
        cases hh

set_option maxRecDepth 100000 in
set_option maxHeartbeats 4000000 in
theorem gd_X12_go_40 {ad0 : Nat → Nat} {G : Gm} {A : Nat → Prop} {p : Program} {l : Launch} {e : Env} {R : Room} {s0 : State} {m : MethodId} {args : Array Value} {below : List Frame} {meth : Method} {c : Code} {Q : State → Prop} {r : (Int32 × SS)}   (hT : ∀ q ∈ tb_X12_go (calE (es_X12_go)), OKi G A 5 113 6344 ad0 p l e R s0 m args below meth c Q opsS rI r q.1 q.2)   : ∀ (n : Nat) (x2 : Int32) (x3 : Int32) (x4 : Int32) (s : SS), F_X12_go_40   n x2 x3 x4 s = some r → Gd G A 5 113 6344 ad0 p l e R s0 m args below meth c Q opsS 40 [some (.ref 74), none, some (.int x2), some (.int x3), some (.int x4)] [] s := by
  intro n
  induction n with
  | zero =>
    intro x2 x3 x4 s hh
    exact absurd (show (none : Option (Int32 × SS)) = some r from hh) (by simp)
  | succ n ih =>
    intro x2 x3 x4 s hh
    rw [← eq_X12_go_40    n x2 x3 x4 s] at hh
    refine ex_good hT (fun pc' ls' st' x' hh => ?_) 88 40 _ [] s hh
    unfold ka_X12_go_40 at hh
    cases hb : Nat.beq pc' 40 with
    | true =>
      rw [hb] at hh
      have e9 := beq1 hb
      subst e9
      simp only [cond_true] at hh
      split at hh
      · obtain ⟨g0, hh1⟩ := gd_some hh
        have e0 := veq_of g0
        subst e0
        exact Gd.wk (ih _ _ _ _ hh1) (Lle.eq (Lle.no (Lle.eq (Lle.eq (Lle.eq Lle.nil)))))
      · cases hh
    | false =>
      rw [hb] at hh
      simp only [cond_false] at hh
      cases hb : Nat.beq pc' 79 with
      | true =>
        rw [hb] at hh
        have e9 := beq1 hb
        subst e9
        simp only [cond_true] at hh
        split at hh
        · obtain ⟨g0, hh1⟩ := gd_some hh
          have e0 := veq_of g0
          subst e0
          exact Gd.wk (gd_X12_go_79 hT   _ _ _ _ hh1) (Lle.eq (Lle.no (Lle.no (Lle.eq (Lle.eq Lle.nil)))))
        · cases hh
      | false =>
        rw [hb] at hh
        simp only [cond_false] at hh
        cases hh

noncomputable def ka_X12_go  : Kn SS (Int32 × SS) := fun pc ls st s => bif Nat.beq pc 40 then (match ls, st with
    | [some y0, _, some (.int x2), some (.int x3), some (.int x4)], [] => (gd (veq y0 (.ref 74)) (F_X12_go_40 fuel0 x2 x3 x4 s))
    | _, _ => none) else (none)
set_option maxRecDepth 100000 in
set_option maxHeartbeats 4000000 in
theorem eq_X12_go   (a0 : Int32) (a1 : Int32) (s : SS) : ex (tb_X12_go (calE (es_X12_go))) rI [40, 79, 125] (ka_X12_go ) 88 0 [some (.ref 74), some (.int a0), some (.int a1), none, none] [] s = f_X12_go a0 a1 s := by
  rfl
set_option maxRecDepth 100000 in
set_option maxHeartbeats 4000000 in
theorem run_X12_go {l : Launch} {G : Gm}   (a0 : Int32) (a1 : Int32) (s : SS) (q : (Int32 × SS)) (h : f_X12_go a0 a1 s = some q) (D' : Nat) (hD : 6 ≤ D') : RunsM l G (D' + 1) (md 195) (embS s) [.ref 74, .int a0, .int a1] (some (.int q.1)) (embS q.2) := by
  rw [md_X12_go]
  refine runs_I (plainFor_of_name (by decide +kernel)) (Nat.le_of_ble_eq_true rfl) rfl ?_
  intro A p e R s0 m args below meth c Q ad0 hR X hret
  have X : Cx G A RX12 cX12_go 5 p s0 m args c := X
  have hT := tk_X12_go X (calE_ok (es := es_X12_go) (enc (en_X12_in_ok _ (by omega)) (enc (en_X12_think_ok _ (by omega)) (enc (en_X12_goHour_ok _ (by omega)) (enn))))) (rmD rfl hR) hret
  rw [← eq_X12_go   a0 a1 s] at h
  refine ex_good hT (fun pc' ls' st' x' hh => ?_) 88 0 _ [] s h
  unfold ka_X12_go at hh
  cases hb : Nat.beq pc' 40 with
  | true =>
    rw [hb] at hh
    have e9 := beq1 hb
    subst e9
    simp only [cond_true] at hh
    split at hh
    · obtain ⟨g0, hh1⟩ := gd_some hh
      have e0 := veq_of g0
      subst e0
      exact Gd.wk (gd_X12_go_40 hT  _ _ _ _ _ hh1) (Lle.eq (Lle.no (Lle.eq (Lle.eq (Lle.eq Lle.nil)))))
    · cases hh
  | false =>
    rw [hb] at hh
    simp only [cond_false] at hh
    cases hh

noncomputable def en_X12_go  : En := fun _ av s k => match av with
  | [.ref r0, .int a0, .int a1] => (gd (Nat.beq r0 74) (bI (f_X12_go a0 a1 s) k))
  | _ => none
set_option maxRecDepth 100000 in
set_option maxHeartbeats 4000000 in
theorem en_X12_go_ok {l : Launch} {G : Gm} (D : Nat) (hD : 7 ≤ D) : enOK l G D 195 en_X12_go := by
  intro ρ av x k r h
  unfold en_X12_go at h
  split at h
  · obtain ⟨g0, h⟩ := gd_some h
    obtain ⟨q, h1, h2⟩ := bind_of h
    have e0 := beq1 g0
    subst e0
    obtain ⟨D', rfl⟩ : ∃ D', D = D' + 1 := ⟨D - 1, by omega⟩
    exact ⟨_, _, h2, run_X12_go  _ _ _ _ h1 D' (by omega)⟩
  · cases h

/-! HatRankModel move -/
noncomputable def tb_X12_move (cal : Cal SS) : List (Nat × Ins SS) := [(0, e_aload 0 1), (1, e_iload 1 2), (2, e_callV opsS cal 151 1 12 5), (5, e_ifeq 16 8), (8, e_aload 0 9), (9, e_iload 2 10), (10, e_callV opsS cal 150 1 12 13), (13, e_ifne 18 16), (16, e_iconst (-1) 17), (17, e_iret), (18, e_aload 0 19), (19, e_aload 0 20), (20, e_getR opsS 12 14 23), (23, e_iload 1 24), (24, e_ald opsS 100 25), (25, e_iload 2 26), (26, e_callV opsS cal 154 2 12 29), (29, e_ifne 35 32), (32, e_iconst (-2) 34), (34, e_iret), (35, e_aload 0 36), (36, e_getR opsS 12 14 39), (39, e_iload 1 40), (40, e_iload 2 41), (41, e_ast opsS 100 (fun v => v) 42), (42, e_iload 2 43), (43, e_iret)]
set_option maxRecDepth 100000 in
set_option maxHeartbeats 4000000 in
theorem tk_X12_move {ad0 : Nat → Nat} {G : Gm} {A : Nat → Prop} {p : Program} {l : Launch} {e : Env} {R : Room} {s0 : State} {m : MethodId} {args : Array Value} {below : List Frame} {meth : Method} {c : Code} {Q : State → Prop} {ρ : Type} {ret : Option Value → SS → Option ρ} {r : ρ} (X : Cx G A RX12 cX12_move 3 p s0 m args c) {D' : Nat} {cal : Cal SS} (hcal : calOK l G opsS D' cal) (hRm : ∀ k, k ≤ 21 → D' + 1 ≤ R.frames ∧ 8 + (k + 11) + 40 * D' ≤ R.locals) (hret : RetK G A cX12_move 113 6344 ad0 p l e R s0 m args below meth c Q opsS ret r .ireturn okI) : ∀ q ∈ tb_X12_move cal, OKi G A 3 113 6344 ad0 p l e R s0 m args below meth c Q opsS ret r q.1 q.2 :=
    okc (ok_aload_n (j := 0) X (by decide +kernel) rfl rfl) (
    okc (ok_iload_n (j := 1) X (by decide +kernel) rfl rfl) (
    okc (ok_callV (ci := 12) (C := RX12) (T := TX12) (N := 63) (Y := (yX12_isPerson, cX12_isPerson, 2, (some .boolean))) X hcal opsS_n md_X12_isPerson rfl (by decide) rfl wc_X12_isPerson wl_X12_175 wi_X12 wm_X12_isPerson wv_X12_isPerson (by decide +kernel) (hRm 2 (by decide)) (by decide +kernel) rfl) (
    okc (ok_ifeq (off := 11) X (by decide +kernel) (by decide) rfl) (
    okc (ok_aload_n (j := 0) X (by decide +kernel) rfl rfl) (
    okc (ok_iload_n (j := 2) X (by decide +kernel) rfl rfl) (
    okc (ok_callV (ci := 12) (C := RX12) (T := TX12) (N := 63) (Y := (yX12_isPlace, cX12_isPlace, 2, (some .boolean))) X hcal opsS_n md_X12_isPlace rfl (by decide) rfl wc_X12_isPlace wl_X12_144 wi_X12 wm_X12_isPlace wv_X12_isPlace (by decide +kernel) (hRm 2 (by decide)) (by decide +kernel) rfl) (
    okc (ok_ifne (off := 5) X (by decide +kernel) (by decide) rfl) (
    okc (ok_iconst (n := -1) X (by decide +kernel) rfl rfl) (
    okc (ok_iret hret (by decide +kernel)) (
    okc (ok_aload_n (j := 0) X (by decide +kernel) rfl rfl) (
    okc (ok_aload_n (j := 0) X (by decide +kernel) rfl rfl) (
    okc (ok_getR (ci := 12) (kf := 14) (idx := 34) (C := RX12) (T := TX12) (N := 63) X rfl (by decide) inX12 (by decide) wf_X12_34 (fun _ _ _ => rfl) (by decide +kernel) rfl) (
    okc (ok_iload_n (j := 1) X (by decide +kernel) rfl rfl) (
    okc (ok_iald X (by decide +kernel) rfl) (
    okc (ok_iload_n (j := 2) X (by decide +kernel) rfl rfl) (
    okc (ok_callV (ci := 12) (C := RX12) (T := TX12) (N := 63) (Y := (yX12_isWay, cX12_isWay, 4, (some .boolean))) X hcal opsS_n md_X12_isWay rfl (by decide) rfl wc_X12_isWay wl_X12_148 wi_X12 wm_X12_isWay wv_X12_isWay (by decide +kernel) (hRm 4 (by decide)) (by decide +kernel) rfl) (
    okc (ok_ifne (off := 6) X (by decide +kernel) (by decide) rfl) (
    okc (ok_bipush (n := -2) X (by decide +kernel) rfl rfl) (
    okc (ok_iret hret (by decide +kernel)) (
    okc (ok_aload_n (j := 0) X (by decide +kernel) rfl rfl) (
    okc (ok_getR (ci := 12) (kf := 14) (idx := 34) (C := RX12) (T := TX12) (N := 63) X rfl (by decide) inX12 (by decide) wf_X12_34 (fun _ _ _ => rfl) (by decide +kernel) rfl) (
    okc (ok_iload_n (j := 1) X (by decide +kernel) rfl rfl) (
    okc (ok_iload_n (j := 2) X (by decide +kernel) rfl rfl) (
    okc (ok_iast X opsS_ok (by decide +kernel) rfl) (
    okc (ok_iload_n (j := 2) X (by decide +kernel) rfl rfl) (
    okc (ok_iret hret (by decide +kernel)) (
    okn)))))))))))))))))))))))))))
noncomputable def es_X12_move  : List (Nat × En) := [(151, en_X12_isPerson), (150, en_X12_isPlace), (154, en_X12_isWay)]
set_option maxRecDepth 100000 in
set_option maxHeartbeats 4000000 in
theorem eq_X12_move   (a0 : Int32) (a1 : Int32) (s : SS) : ex (tb_X12_move (calE (es_X12_move))) rI [] (fun _ _ _ _ => none) 29 0 [some (.ref 74), some (.int a0), some (.int a1)] [] s = f_X12_move a0 a1 s := by
  rfl
set_option maxRecDepth 100000 in
set_option maxHeartbeats 4000000 in
theorem run_X12_move {l : Launch} {G : Gm}   (a0 : Int32) (a1 : Int32) (s : SS) (q : (Int32 × SS)) (h : f_X12_move a0 a1 s = some q) (D' : Nat) (hD : 2 ≤ D') : RunsM l G (D' + 1) (md 196) (embS s) [.ref 74, .int a0, .int a1] (some (.int q.1)) (embS q.2) := by
  rw [md_X12_move]
  refine runs_I (plainFor_of_name (by decide +kernel)) (Nat.le_of_ble_eq_true rfl) rfl ?_
  intro A p e R s0 m args below meth c Q ad0 hR X hret
  have X : Cx G A RX12 cX12_move 3 p s0 m args c := X
  have hT := tk_X12_move X (calE_ok (es := es_X12_move) (enc (en_X12_isPerson_ok _ (by omega)) (enc (en_X12_isPlace_ok _ (by omega)) (enc (en_X12_isWay_ok _ (by omega)) (enn))))) (rmD rfl hR) hret
  rw [← eq_X12_move   a0 a1 s] at h
  refine ex_good hT (fun pc' ls' st' x' hh => ?_) 29 0 _ [] s h
  cases hh

noncomputable def en_X12_move  : En := fun _ av s k => match av with
  | [.ref r0, .int a0, .int a1] => (gd (Nat.beq r0 74) (bI (f_X12_move a0 a1 s) k))
  | _ => none
set_option maxRecDepth 100000 in
set_option maxHeartbeats 4000000 in
theorem en_X12_move_ok {l : Launch} {G : Gm} (D : Nat) (hD : 3 ≤ D) : enOK l G D 196 en_X12_move := by
  intro ρ av x k r h
  unfold en_X12_move at h
  split at h
  · obtain ⟨g0, h⟩ := gd_some h
    obtain ⟨q, h1, h2⟩ := bind_of h
    have e0 := beq1 g0
    subst e0
    obtain ⟨D', rfl⟩ : ∃ D', D = D' + 1 := ⟨D - 1, by omega⟩
    exact ⟨_, _, h2, run_X12_move  _ _ _ _ h1 D' (by omega)⟩
  · cases h

/-! HatRankModel lay -/
noncomputable def tb_X12_lay (cal : Cal SS) : List (Nat × Ins SS) := [(0, e_aload 0 1), (1, e_iload 1 2), (2, e_callV opsS cal 150 1 12 5), (5, e_ifne 10 8), (8, e_iconst (-1) 9), (9, e_iret), (10, e_aload 0 11), (11, e_getR opsS 12 7 14), (14, e_iload 1 15), (15, e_ald opsS 100 16), (16, e_iconst (99) 18), (18, e_clt 24 21), (21, e_iconst (-3) 23), (23, e_iret), (24, e_aload 0 25), (25, e_getR opsS 12 7 28), (28, e_iload 1 29), (29, e_dup2 30), (30, e_ald opsS 100 31), (31, e_iconst (1) 32), (32, e_bin aAdd 33), (33, e_ast opsS 100 (fun v => v) 34), (34, e_aload 0 35), (35, e_getR opsS 12 7 38), (38, e_iload 1 39), (39, e_ald opsS 100 40), (40, e_iret)]
set_option maxRecDepth 100000 in
set_option maxHeartbeats 4000000 in
theorem tk_X12_lay {ad0 : Nat → Nat} {G : Gm} {A : Nat → Prop} {p : Program} {l : Launch} {e : Env} {R : Room} {s0 : State} {m : MethodId} {args : Array Value} {below : List Frame} {meth : Method} {c : Code} {Q : State → Prop} {ρ : Type} {ret : Option Value → SS → Option ρ} {r : ρ} (X : Cx G A RX12 cX12_lay 2 p s0 m args c) {D' : Nat} {cal : Cal SS} (hcal : calOK l G opsS D' cal) (hRm : ∀ k, k ≤ 21 → D' + 1 ≤ R.frames ∧ 8 + (k + 11) + 40 * D' ≤ R.locals) (hret : RetK G A cX12_lay 113 6344 ad0 p l e R s0 m args below meth c Q opsS ret r .ireturn okI) : ∀ q ∈ tb_X12_lay cal, OKi G A 2 113 6344 ad0 p l e R s0 m args below meth c Q opsS ret r q.1 q.2 :=
    okc (ok_aload_n (j := 0) X (by decide +kernel) rfl rfl) (
    okc (ok_iload_n (j := 1) X (by decide +kernel) rfl rfl) (
    okc (ok_callV (ci := 12) (C := RX12) (T := TX12) (N := 63) (Y := (yX12_isPlace, cX12_isPlace, 2, (some .boolean))) X hcal opsS_n md_X12_isPlace rfl (by decide) rfl wc_X12_isPlace wl_X12_144 wi_X12 wm_X12_isPlace wv_X12_isPlace (by decide +kernel) (hRm 2 (by decide)) (by decide +kernel) rfl) (
    okc (ok_ifne (off := 5) X (by decide +kernel) (by decide) rfl) (
    okc (ok_iconst (n := -1) X (by decide +kernel) rfl rfl) (
    okc (ok_iret hret (by decide +kernel)) (
    okc (ok_aload_n (j := 0) X (by decide +kernel) rfl rfl) (
    okc (ok_getR (ci := 12) (kf := 7) (idx := 19) (C := RX12) (T := TX12) (N := 63) X rfl (by decide) inX12 (by decide) wf_X12_19 (fun _ _ _ => rfl) (by decide +kernel) rfl) (
    okc (ok_iload_n (j := 1) X (by decide +kernel) rfl rfl) (
    okc (ok_iald X (by decide +kernel) rfl) (
    okc (ok_bipush (n := 99) X (by decide +kernel) rfl rfl) (
    okc (ok_clt (off := 6) X (by decide +kernel) (by decide) rfl) (
    okc (ok_bipush (n := -3) X (by decide +kernel) rfl rfl) (
    okc (ok_iret hret (by decide +kernel)) (
    okc (ok_aload_n (j := 0) X (by decide +kernel) rfl rfl) (
    okc (ok_getR (ci := 12) (kf := 7) (idx := 19) (C := RX12) (T := TX12) (N := 63) X rfl (by decide) inX12 (by decide) wf_X12_19 (fun _ _ _ => rfl) (by decide +kernel) rfl) (
    okc (ok_iload_n (j := 1) X (by decide +kernel) rfl rfl) (
    okc (ok_dup2 X (by decide +kernel) rfl) (
    okc (ok_iald X (by decide +kernel) rfl) (
    okc (ok_iconst (n := 1) X (by decide +kernel) rfl rfl) (
    okc (ok_iadd X (by decide +kernel) rfl) (
    okc (ok_iast X opsS_ok (by decide +kernel) rfl) (
    okc (ok_aload_n (j := 0) X (by decide +kernel) rfl rfl) (
    okc (ok_getR (ci := 12) (kf := 7) (idx := 19) (C := RX12) (T := TX12) (N := 63) X rfl (by decide) inX12 (by decide) wf_X12_19 (fun _ _ _ => rfl) (by decide +kernel) rfl) (
    okc (ok_iload_n (j := 1) X (by decide +kernel) rfl rfl) (
    okc (ok_iald X (by decide +kernel) rfl) (
    okc (ok_iret hret (by decide +kernel)) (
    okn)))))))))))))))))))))))))))
noncomputable def es_X12_lay  : List (Nat × En) := [(150, en_X12_isPlace)]
set_option maxRecDepth 100000 in
set_option maxHeartbeats 4000000 in
theorem eq_X12_lay   (a0 : Int32) (s : SS) : ex (tb_X12_lay (calE (es_X12_lay))) rI [] (fun _ _ _ _ => none) 29 0 [some (.ref 74), some (.int a0)] [] s = f_X12_lay a0 s := by
  rfl
set_option maxRecDepth 100000 in
set_option maxHeartbeats 4000000 in
theorem run_X12_lay {l : Launch} {G : Gm}   (a0 : Int32) (s : SS) (q : (Int32 × SS)) (h : f_X12_lay a0 s = some q) (D' : Nat) (hD : 2 ≤ D') : RunsM l G (D' + 1) (md 197) (embS s) [.ref 74, .int a0] (some (.int q.1)) (embS q.2) := by
  rw [md_X12_lay]
  refine runs_I (plainFor_of_name (by decide +kernel)) (Nat.le_of_ble_eq_true rfl) rfl ?_
  intro A p e R s0 m args below meth c Q ad0 hR X hret
  have X : Cx G A RX12 cX12_lay 2 p s0 m args c := X
  have hT := tk_X12_lay X (calE_ok (es := es_X12_lay) (enc (en_X12_isPlace_ok _ (by omega)) (enn))) (rmD rfl hR) hret
  rw [← eq_X12_lay   a0 s] at h
  refine ex_good hT (fun pc' ls' st' x' hh => ?_) 29 0 _ [] s h
  cases hh

noncomputable def en_X12_lay  : En := fun _ av s k => match av with
  | [.ref r0, .int a0] => (gd (Nat.beq r0 74) (bI (f_X12_lay a0 s) k))
  | _ => none
set_option maxRecDepth 100000 in
set_option maxHeartbeats 4000000 in
theorem en_X12_lay_ok {l : Launch} {G : Gm} (D : Nat) (hD : 3 ≤ D) : enOK l G D 197 en_X12_lay := by
  intro ρ av x k r h
  unfold en_X12_lay at h
  split at h
  · obtain ⟨g0, h⟩ := gd_some h
    obtain ⟨q, h1, h2⟩ := bind_of h
    have e0 := beq1 g0
    subst e0
    obtain ⟨D', rfl⟩ : ∃ D', D = D' + 1 := ⟨D - 1, by omega⟩
    exact ⟨_, _, h2, run_X12_lay  _ _ _ h1 D' (by omega)⟩
  · cases h

/-! HatRankModel commands -/
noncomputable def tb_X12_commands (cal : Cal SS) : List (Nat × Ins SS) := [(0, e_aload 0 1), (1, e_getI opsS 12 11 4), (4, e_ifne 12 7), (7, e_iconst (-5) 9), (9, e_goto 20), (12, e_aload 0 13), (13, e_aload 0 14), (14, e_getR opsS 12 12 17), (17, e_callV opsS cal 189 1 12 20), (20, e_iret)]
set_option maxRecDepth 100000 in
set_option maxHeartbeats 4000000 in
theorem tk_X12_commands {ad0 : Nat → Nat} {G : Gm} {A : Nat → Prop} {p : Program} {l : Launch} {e : Env} {R : Room} {s0 : State} {m : MethodId} {args : Array Value} {below : List Frame} {meth : Method} {c : Code} {Q : State → Prop} {ρ : Type} {ret : Option Value → SS → Option ρ} {r : ρ} (X : Cx G A RX12 cX12_commands 1 p s0 m args c) {D' : Nat} {cal : Cal SS} (hcal : calOK l G opsS D' cal) (hRm : ∀ k, k ≤ 21 → D' + 1 ≤ R.frames ∧ 8 + (k + 11) + 40 * D' ≤ R.locals) (hret : RetK G A cX12_commands 113 6344 ad0 p l e R s0 m args below meth c Q opsS ret r .ireturn okI) : ∀ q ∈ tb_X12_commands cal, OKi G A 1 113 6344 ad0 p l e R s0 m args below meth c Q opsS ret r q.1 q.2 :=
    okc (ok_aload_n (j := 0) X (by decide +kernel) rfl rfl) (
    okc (ok_getI (ci := 12) (kf := 11) (idx := 138) (C := RX12) (T := TX12) (N := 63) X rfl (by decide) inX12 (by decide) wf_X12_138 (fun _ _ _ => rfl) (by decide +kernel) rfl) (
    okc (ok_ifne (off := 8) X (by decide +kernel) (by decide) rfl) (
    okc (ok_bipush (n := -5) X (by decide +kernel) rfl rfl) (
    okc (ok_goto (off := 11) X (by decide +kernel) (by decide)) (
    okc (ok_aload_n (j := 0) X (by decide +kernel) rfl rfl) (
    okc (ok_aload_n (j := 0) X (by decide +kernel) rfl rfl) (
    okc (ok_getR (ci := 12) (kf := 12) (idx := 28) (C := RX12) (T := TX12) (N := 63) X rfl (by decide) inX12 (by decide) wf_X12_28 (fun _ _ _ => rfl) (by decide +kernel) rfl) (
    okc (ok_callV (ci := 12) (C := RX12) (T := TX12) (N := 63) (Y := (yX12_firstOf, cX12_firstOf, 3, (some .int))) X hcal opsS_n md_X12_firstOf rfl (by decide) rfl wc_X12_firstOf wl_X12_298 wi_X12 wm_X12_firstOf wv_X12_firstOf (by decide +kernel) (hRm 3 (by decide)) (by decide +kernel) rfl) (
    okc (ok_iret hret (by decide +kernel)) (
    okn))))))))))
noncomputable def es_X12_commands  : List (Nat × En) := [(189, en_X12_firstOf)]
set_option maxRecDepth 100000 in
set_option maxHeartbeats 4000000 in
theorem eq_X12_commands    (s : SS) : ex (tb_X12_commands (calE (es_X12_commands))) rI [] (fun _ _ _ _ => none) 12 0 [some (.ref 74)] [] s = f_X12_commands  s := by
  rfl
set_option maxRecDepth 100000 in
set_option maxHeartbeats 4000000 in
theorem run_X12_commands {l : Launch} {G : Gm}    (s : SS) (q : (Int32 × SS)) (h : f_X12_commands  s = some q) (D' : Nat) (hD : 2 ≤ D') : RunsM l G (D' + 1) (md 198) (embS s) [.ref 74] (some (.int q.1)) (embS q.2) := by
  rw [md_X12_commands]
  refine runs_I (plainFor_of_name (by decide +kernel)) (Nat.le_of_ble_eq_true rfl) rfl ?_
  intro A p e R s0 m args below meth c Q ad0 hR X hret
  have X : Cx G A RX12 cX12_commands 1 p s0 m args c := X
  have hT := tk_X12_commands X (calE_ok (es := es_X12_commands) (enc (en_X12_firstOf_ok _ (by omega)) (enn))) (rmD rfl hR) hret
  rw [← eq_X12_commands    s] at h
  refine ex_good hT (fun pc' ls' st' x' hh => ?_) 12 0 _ [] s h
  cases hh

noncomputable def en_X12_commands  : En := fun _ av s k => match av with
  | [.ref r0] => (gd (Nat.beq r0 74) (bI (f_X12_commands  s) k))
  | _ => none
set_option maxRecDepth 100000 in
set_option maxHeartbeats 4000000 in
theorem en_X12_commands_ok {l : Launch} {G : Gm} (D : Nat) (hD : 3 ≤ D) : enOK l G D 198 en_X12_commands := by
  intro ρ av x k r h
  unfold en_X12_commands at h
  split at h
  · obtain ⟨g0, h⟩ := gd_some h
    obtain ⟨q, h1, h2⟩ := bind_of h
    have e0 := beq1 g0
    subst e0
    obtain ⟨D', rfl⟩ : ∃ D', D = D' + 1 := ⟨D - 1, by omega⟩
    exact ⟨_, _, h2, run_X12_commands   _ _ h1 D' (by omega)⟩
  · cases h

/-! HatRankModel led -/
noncomputable def tb_X12_led (cal : Cal SS) : List (Nat × Ins SS) := [(0, e_aload 0 1), (1, e_iload 1 2), (2, e_callV opsS cal 151 1 12 5), (5, e_ifne 10 8), (8, e_iconst (-1) 9), (9, e_iret), (10, e_aload 0 11), (11, e_getR opsS 12 15 14), (14, e_iload 1 15), (15, e_ald opsS 100 16), (16, e_iconst (-3) 18), (18, e_cne 26 21), (21, e_iconst (-5) 23), (23, e_goto 32), (26, e_aload 0 27), (27, e_getR opsS 12 15 30), (30, e_iload 1 31), (31, e_ald opsS 100 32), (32, e_iret)]
set_option maxRecDepth 100000 in
set_option maxHeartbeats 4000000 in
theorem tk_X12_led {ad0 : Nat → Nat} {G : Gm} {A : Nat → Prop} {p : Program} {l : Launch} {e : Env} {R : Room} {s0 : State} {m : MethodId} {args : Array Value} {below : List Frame} {meth : Method} {c : Code} {Q : State → Prop} {ρ : Type} {ret : Option Value → SS → Option ρ} {r : ρ} (X : Cx G A RX12 cX12_led 2 p s0 m args c) {D' : Nat} {cal : Cal SS} (hcal : calOK l G opsS D' cal) (hRm : ∀ k, k ≤ 21 → D' + 1 ≤ R.frames ∧ 8 + (k + 11) + 40 * D' ≤ R.locals) (hret : RetK G A cX12_led 113 6344 ad0 p l e R s0 m args below meth c Q opsS ret r .ireturn okI) : ∀ q ∈ tb_X12_led cal, OKi G A 2 113 6344 ad0 p l e R s0 m args below meth c Q opsS ret r q.1 q.2 :=
    okc (ok_aload_n (j := 0) X (by decide +kernel) rfl rfl) (
    okc (ok_iload_n (j := 1) X (by decide +kernel) rfl rfl) (
    okc (ok_callV (ci := 12) (C := RX12) (T := TX12) (N := 63) (Y := (yX12_isPerson, cX12_isPerson, 2, (some .boolean))) X hcal opsS_n md_X12_isPerson rfl (by decide) rfl wc_X12_isPerson wl_X12_175 wi_X12 wm_X12_isPerson wv_X12_isPerson (by decide +kernel) (hRm 2 (by decide)) (by decide +kernel) rfl) (
    okc (ok_ifne (off := 5) X (by decide +kernel) (by decide) rfl) (
    okc (ok_iconst (n := -1) X (by decide +kernel) rfl rfl) (
    okc (ok_iret hret (by decide +kernel)) (
    okc (ok_aload_n (j := 0) X (by decide +kernel) rfl rfl) (
    okc (ok_getR (ci := 12) (kf := 15) (idx := 37) (C := RX12) (T := TX12) (N := 63) X rfl (by decide) inX12 (by decide) wf_X12_37 (fun _ _ _ => rfl) (by decide +kernel) rfl) (
    okc (ok_iload_n (j := 1) X (by decide +kernel) rfl rfl) (
    okc (ok_iald X (by decide +kernel) rfl) (
    okc (ok_bipush (n := -3) X (by decide +kernel) rfl rfl) (
    okc (ok_cne (off := 8) X (by decide +kernel) (by decide) rfl) (
    okc (ok_bipush (n := -5) X (by decide +kernel) rfl rfl) (
    okc (ok_goto (off := 9) X (by decide +kernel) (by decide)) (
    okc (ok_aload_n (j := 0) X (by decide +kernel) rfl rfl) (
    okc (ok_getR (ci := 12) (kf := 15) (idx := 37) (C := RX12) (T := TX12) (N := 63) X rfl (by decide) inX12 (by decide) wf_X12_37 (fun _ _ _ => rfl) (by decide +kernel) rfl) (
    okc (ok_iload_n (j := 1) X (by decide +kernel) rfl rfl) (
    okc (ok_iald X (by decide +kernel) rfl) (
    okc (ok_iret hret (by decide +kernel)) (
    okn)))))))))))))))))))
noncomputable def es_X12_led  : List (Nat × En) := [(151, en_X12_isPerson)]
set_option maxRecDepth 100000 in
set_option maxHeartbeats 4000000 in
theorem eq_X12_led   (a0 : Int32) (s : SS) : ex (tb_X12_led (calE (es_X12_led))) rI [] (fun _ _ _ _ => none) 21 0 [some (.ref 74), some (.int a0)] [] s = f_X12_led a0 s := by
  rfl
set_option maxRecDepth 100000 in
set_option maxHeartbeats 4000000 in
theorem run_X12_led {l : Launch} {G : Gm}   (a0 : Int32) (s : SS) (q : (Int32 × SS)) (h : f_X12_led a0 s = some q) (D' : Nat) (hD : 2 ≤ D') : RunsM l G (D' + 1) (md 199) (embS s) [.ref 74, .int a0] (some (.int q.1)) (embS q.2) := by
  rw [md_X12_led]
  refine runs_I (plainFor_of_name (by decide +kernel)) (Nat.le_of_ble_eq_true rfl) rfl ?_
  intro A p e R s0 m args below meth c Q ad0 hR X hret
  have X : Cx G A RX12 cX12_led 2 p s0 m args c := X
  have hT := tk_X12_led X (calE_ok (es := es_X12_led) (enc (en_X12_isPerson_ok _ (by omega)) (enn))) (rmD rfl hR) hret
  rw [← eq_X12_led   a0 s] at h
  refine ex_good hT (fun pc' ls' st' x' hh => ?_) 21 0 _ [] s h
  cases hh

noncomputable def en_X12_led  : En := fun _ av s k => match av with
  | [.ref r0, .int a0] => (gd (Nat.beq r0 74) (bI (f_X12_led a0 s) k))
  | _ => none
set_option maxRecDepth 100000 in
set_option maxHeartbeats 4000000 in
theorem en_X12_led_ok {l : Launch} {G : Gm} (D : Nat) (hD : 3 ≤ D) : enOK l G D 199 en_X12_led := by
  intro ρ av x k r h
  unfold en_X12_led at h
  split at h
  · obtain ⟨g0, h⟩ := gd_some h
    obtain ⟨q, h1, h2⟩ := bind_of h
    have e0 := beq1 g0
    subst e0
    obtain ⟨D', rfl⟩ : ∃ D', D = D' + 1 := ⟨D - 1, by omega⟩
    exact ⟨_, _, h2, run_X12_led  _ _ _ h1 D' (by omega)⟩
  · cases h

/-! HatRankModel mayGo -/
noncomputable def tb_X12_mayGo (cal : Cal SS) : List (Nat × Ins SS) := [(0, e_iload 1 1), (1, e_iload 2 2), (2, e_ceq 14 5), (5, e_aload 0 6), (6, e_iload 1 7), (7, e_iload 2 8), (8, e_callV opsS cal 154 2 12 11), (11, e_ifeq 18 14), (14, e_iconst (1) 15), (15, e_goto 19), (18, e_iconst (0) 19), (19, e_zret)]
set_option maxRecDepth 100000 in
set_option maxHeartbeats 4000000 in
theorem tk_X12_mayGo {ad0 : Nat → Nat} {G : Gm} {A : Nat → Prop} {p : Program} {l : Launch} {e : Env} {R : Room} {s0 : State} {m : MethodId} {args : Array Value} {below : List Frame} {meth : Method} {c : Code} {Q : State → Prop} {ρ : Type} {ret : Option Value → SS → Option ρ} {r : ρ} (X : Cx G A RX12 cX12_mayGo 3 p s0 m args c) {D' : Nat} {cal : Cal SS} (hcal : calOK l G opsS D' cal) (hRm : ∀ k, k ≤ 21 → D' + 1 ≤ R.frames ∧ 8 + (k + 11) + 40 * D' ≤ R.locals) (hret : RetK G A cX12_mayGo 113 6344 ad0 p l e R s0 m args below meth c Q opsS ret r .ireturn okZ) : ∀ q ∈ tb_X12_mayGo cal, OKi G A 3 113 6344 ad0 p l e R s0 m args below meth c Q opsS ret r q.1 q.2 :=
    okc (ok_iload_n (j := 1) X (by decide +kernel) rfl rfl) (
    okc (ok_iload_n (j := 2) X (by decide +kernel) rfl rfl) (
    okc (ok_ceq (off := 12) X (by decide +kernel) (by decide) rfl) (
    okc (ok_aload_n (j := 0) X (by decide +kernel) rfl rfl) (
    okc (ok_iload_n (j := 1) X (by decide +kernel) rfl rfl) (
    okc (ok_iload_n (j := 2) X (by decide +kernel) rfl rfl) (
    okc (ok_callV (ci := 12) (C := RX12) (T := TX12) (N := 63) (Y := (yX12_isWay, cX12_isWay, 4, (some .boolean))) X hcal opsS_n md_X12_isWay rfl (by decide) rfl wc_X12_isWay wl_X12_148 wi_X12 wm_X12_isWay wv_X12_isWay (by decide +kernel) (hRm 4 (by decide)) (by decide +kernel) rfl) (
    okc (ok_ifeq (off := 7) X (by decide +kernel) (by decide) rfl) (
    okc (ok_iconst (n := 1) X (by decide +kernel) rfl rfl) (
    okc (ok_goto (off := 4) X (by decide +kernel) (by decide)) (
    okc (ok_iconst (n := 0) X (by decide +kernel) rfl rfl) (
    okc (ok_zret hret (by decide +kernel)) (
    okn))))))))))))
noncomputable def es_X12_mayGo  : List (Nat × En) := [(154, en_X12_isWay)]
set_option maxRecDepth 100000 in
set_option maxHeartbeats 4000000 in
theorem eq_X12_mayGo   (a0 : Int32) (a1 : Int32) (s : SS) : ex (tb_X12_mayGo (calE (es_X12_mayGo))) rI [] (fun _ _ _ _ => none) 14 0 [some (.ref 74), some (.int a0), some (.int a1)] [] s = f_X12_mayGo a0 a1 s := by
  rfl
set_option maxRecDepth 100000 in
set_option maxHeartbeats 4000000 in
theorem run_X12_mayGo {l : Launch} {G : Gm}   (a0 : Int32) (a1 : Int32) (s : SS) (q : (Int32 × SS)) (h : f_X12_mayGo a0 a1 s = some q) (D' : Nat) (hD : 1 ≤ D') : RunsM l G (D' + 1) (md 200) (embS s) [.ref 74, .int a0, .int a1] (some (.int q.1)) (embS q.2) := by
  rw [md_X12_mayGo]
  refine runs_Z (plainFor_of_name (by decide +kernel)) (Nat.le_of_ble_eq_true rfl) rfl ?_
  intro A p e R s0 m args below meth c Q ad0 hR X hret
  have X : Cx G A RX12 cX12_mayGo 3 p s0 m args c := X
  have hT := tk_X12_mayGo X (calE_ok (es := es_X12_mayGo) (enc (en_X12_isWay_ok _ (by omega)) (enn))) (rmD rfl hR) hret
  rw [← eq_X12_mayGo   a0 a1 s] at h
  refine ex_good hT (fun pc' ls' st' x' hh => ?_) 14 0 _ [] s h
  cases hh

noncomputable def en_X12_mayGo  : En := fun _ av s k => match av with
  | [.ref r0, .int a0, .int a1] => (gd (Nat.beq r0 74) (bI (f_X12_mayGo a0 a1 s) k))
  | _ => none
set_option maxRecDepth 100000 in
set_option maxHeartbeats 4000000 in
theorem en_X12_mayGo_ok {l : Launch} {G : Gm} (D : Nat) (hD : 2 ≤ D) : enOK l G D 200 en_X12_mayGo := by
  intro ρ av x k r h
  unfold en_X12_mayGo at h
  split at h
  · obtain ⟨g0, h⟩ := gd_some h
    obtain ⟨q, h1, h2⟩ := bind_of h
    have e0 := beq1 g0
    subst e0
    obtain ⟨D', rfl⟩ : ∃ D', D = D' + 1 := ⟨D - 1, by omega⟩
    exact ⟨_, _, h2, run_X12_mayGo  _ _ _ _ h1 D' (by omega)⟩
  · cases h

/-! HatRankModel findRisk -/
noncomputable def tb_X12_findRisk (cal : Cal SS) : List (Nat × Ins SS) := [(0, e_aload 0 1), (1, e_callV opsS cal 185 0 12 4), (4, e_iconst (0) 5), (5, e_istore 4 7), (7, e_iload 4 9), (9, e_aload 0 10), (10, e_getI opsS 12 4 13), (13, e_cge 60 16), (16, e_aload 0 17), (17, e_getR opsS 12 41 20), (20, e_iconst (7) 22), (22, e_iload 3 23), (23, e_bin aMul 24), (24, e_iload 4 26), (26, e_bin aAdd 27), (27, e_iload 4 29), (29, e_iload 2 30), (30, e_cne 50 33), (33, e_aload 0 34), (34, e_iload 1 35), (35, e_iload 3 36), (36, e_iload 4 38), (38, e_aload 0 39), (39, e_getR opsS 12 13 42), (42, e_iload 1 43), (43, e_ald opsS 100 44), (44, e_callV opsS cal 187 4 12 47), (47, e_goto 53), (50, e_iconst (1000000) 53), (53, e_ast opsS 100 (fun v => v) 54), (54, e_iinc 4 (1) 57), (57, e_goto 7), (60, e_iload 3 61), (61, e_iconst (1) 62), (62, e_bin aSub 63), (63, e_istore 4 65), (65, e_iload 4 67), (67, e_aload 0 68), (68, e_getI opsS 12 1 71), (71, e_clt 214 74), (74, e_iconst (0) 75), (75, e_istore 5 77), (77, e_iload 5 79), (79, e_aload 0 80), (80, e_getI opsS 12 4 83), (83, e_cge 208 86), (86, e_iconst (1000000) 89), (89, e_istore 6 91), (91, e_iconst (0) 92), (92, e_istore 7 94), (94, e_iload 7 96), (96, e_aload 0 97), (97, e_getI opsS 12 4 100), (100, e_cge 157 103), (103, e_aload 0 104), (104, e_iload 5 106), (106, e_iload 7 108), (108, e_callV opsS cal 200 2 12 111), (111, e_ifeq 151 114), (114, e_aload 0 115), (115, e_getR opsS 12 41 118), (118, e_iconst (7) 120), (120, e_iload 4 122), (122, e_iconst (1) 123), (123, e_bin aAdd 124), (124, e_bin aMul 125), (125, e_iload 7 127), (127, e_bin aAdd 128), (128, e_ald opsS 100 129), (129, e_iload 6 131), (131, e_cge 151 134), (134, e_aload 0 135), (135, e_getR opsS 12 41 138), (138, e_iconst (7) 140), (140, e_iload 4 142), (142, e_iconst (1) 143), (143, e_bin aAdd 144), (144, e_bin aMul 145), (145, e_iload 7 147), (147, e_bin aAdd 148), (148, e_ald opsS 100 149), (149, e_istore 6 151), (151, e_iinc 7 (1) 154), (154, e_goto 94), (157, e_aload 0 158), (158, e_getR opsS 12 41 161), (161, e_iconst (7) 163), (163, e_iload 4 165), (165, e_bin aMul 166), (166, e_iload 5 168), (168, e_bin aAdd 169), (169, e_iload 6 171), (171, e_iconst (1000000) 174), (174, e_cne 183 177), (177, e_iconst (1000000) 180), (180, e_goto 201), (183, e_iload 6 185), (185, e_aload 0 186), (186, e_iload 1 187), (187, e_iload 4 189), (189, e_iload 5 191), (191, e_aload 0 192), (192, e_getR opsS 12 13 195), (195, e_iload 1 196), (196, e_ald opsS 100 197), (197, e_callV opsS cal 187 4 12 200), (200, e_bin aAdd 201), (201, e_ast opsS 100 (fun v => v) 202), (202, e_iinc 5 (1) 205), (205, e_goto 77), (208, e_iinc 4 (-1) 211), (211, e_goto 65), (214, e_vret)]
set_option maxRecDepth 100000 in
set_option maxHeartbeats 4000000 in
theorem tk_X12_findRisk {ad0 : Nat → Nat} {G : Gm} {A : Nat → Prop} {p : Program} {l : Launch} {e : Env} {R : Room} {s0 : State} {m : MethodId} {args : Array Value} {below : List Frame} {meth : Method} {c : Code} {Q : State → Prop} {ρ : Type} {ret : Option Value → SS → Option ρ} {r : ρ} (X : Cx G A RX12 cX12_findRisk 8 p s0 m args c) {D' : Nat} {cal : Cal SS} (hcal : calOK l G opsS D' cal) (hRm : ∀ k, k ≤ 21 → D' + 1 ≤ R.frames ∧ 8 + (k + 11) + 40 * D' ≤ R.locals) (hret : RetK G A cX12_findRisk 113 6344 ad0 p l e R s0 m args below meth c Q opsS ret r .return_ okV) : ∀ q ∈ tb_X12_findRisk cal, OKi G A 8 113 6344 ad0 p l e R s0 m args below meth c Q opsS ret r q.1 q.2 :=
    okc (ok_aload_n (j := 0) X (by decide +kernel) rfl rfl) (
    okc (ok_callV (ci := 12) (C := RX12) (T := TX12) (N := 63) (Y := (yX12_think, cX12_think, 2, none)) X hcal opsS_n md_X12_think rfl (by decide) rfl wc_X12_think wl_X12_275 wi_X12 wm_X12_think wv_X12_think (by decide +kernel) (hRm 2 (by decide)) (by decide +kernel) rfl) (
    okc (ok_iconst (n := 0) X (by decide +kernel) rfl rfl) (
    okc (ok_istore X (by decide +kernel) rfl) (
    okc (ok_iload X (by decide +kernel) rfl) (
    okc (ok_aload_n (j := 0) X (by decide +kernel) rfl rfl) (
    okc (ok_getI (ci := 12) (kf := 4) (idx := 131) (C := RX12) (T := TX12) (N := 63) X rfl (by decide) inX12 (by decide) wf_X12_131 (fun _ _ _ => rfl) (by decide +kernel) rfl) (
    okc (ok_cge (off := 47) X (by decide +kernel) (by decide) rfl) (
    okc (ok_aload_n (j := 0) X (by decide +kernel) rfl rfl) (
    okc (ok_getR (ci := 12) (kf := 41) (idx := 90) (C := RX12) (T := TX12) (N := 63) X rfl (by decide) inX12 (by decide) wf_X12_90 (fun _ _ _ => rfl) (by decide +kernel) rfl) (
    okc (ok_bipush (n := 7) X (by decide +kernel) rfl rfl) (
    okc (ok_iload_n (j := 3) X (by decide +kernel) rfl rfl) (
    okc (ok_imul X (by decide +kernel) rfl) (
    okc (ok_iload X (by decide +kernel) rfl) (
    okc (ok_iadd X (by decide +kernel) rfl) (
    okc (ok_iload X (by decide +kernel) rfl) (
    okc (ok_iload_n (j := 2) X (by decide +kernel) rfl rfl) (
    okc (ok_cne (off := 20) X (by decide +kernel) (by decide) rfl) (
    okc (ok_aload_n (j := 0) X (by decide +kernel) rfl rfl) (
    okc (ok_iload_n (j := 1) X (by decide +kernel) rfl rfl) (
    okc (ok_iload_n (j := 3) X (by decide +kernel) rfl rfl) (
    okc (ok_iload X (by decide +kernel) rfl) (
    okc (ok_aload_n (j := 0) X (by decide +kernel) rfl rfl) (
    okc (ok_getR (ci := 12) (kf := 13) (idx := 31) (C := RX12) (T := TX12) (N := 63) X rfl (by decide) inX12 (by decide) wf_X12_31 (fun _ _ _ => rfl) (by decide +kernel) rfl) (
    okc (ok_iload_n (j := 1) X (by decide +kernel) rfl rfl) (
    okc (ok_iald X (by decide +kernel) rfl) (
    okc (ok_callV (ci := 12) (C := RX12) (T := TX12) (N := 63) (Y := (yX12_fallsBy, cX12_fallsBy, 9, (some .int))) X hcal opsS_n md_X12_fallsBy rfl (by decide) rfl wc_X12_fallsBy wl_X12_258 wi_X12 wm_X12_fallsBy wv_X12_fallsBy (by decide +kernel) (hRm 9 (by decide)) (by decide +kernel) rfl) (
    okc (ok_goto (off := 6) X (by decide +kernel) (by decide)) (
    okc (ok_ldcw (i := 302) X (by decide +kernel) wk_X12_302 rfl) (
    okc (ok_iast X opsS_ok (by decide +kernel) rfl) (
    okc (ok_iinc (n := 1) X (by decide +kernel) rfl rfl) (
    okc (ok_goto (off := -50) X (by decide +kernel) (by decide)) (
    okc (ok_iload_n (j := 3) X (by decide +kernel) rfl rfl) (
    okc (ok_iconst (n := 1) X (by decide +kernel) rfl rfl) (
    okc (ok_isub X (by decide +kernel) rfl) (
    okc (ok_istore X (by decide +kernel) rfl) (
    okc (ok_iload X (by decide +kernel) rfl) (
    okc (ok_aload_n (j := 0) X (by decide +kernel) rfl rfl) (
    okc (ok_getI (ci := 12) (kf := 1) (idx := 272) (C := RX12) (T := TX12) (N := 63) X rfl (by decide) inX12 (by decide) wf_X12_272 (fun _ _ _ => rfl) (by decide +kernel) rfl) (
    okc (ok_clt (off := 143) X (by decide +kernel) (by decide) rfl) (
    okc (ok_iconst (n := 0) X (by decide +kernel) rfl rfl) (
    okc (ok_istore X (by decide +kernel) rfl) (
    okc (ok_iload X (by decide +kernel) rfl) (
    okc (ok_aload_n (j := 0) X (by decide +kernel) rfl rfl) (
    okc (ok_getI (ci := 12) (kf := 4) (idx := 131) (C := RX12) (T := TX12) (N := 63) X rfl (by decide) inX12 (by decide) wf_X12_131 (fun _ _ _ => rfl) (by decide +kernel) rfl) (
    okc (ok_cge (off := 125) X (by decide +kernel) (by decide) rfl) (
    okc (ok_ldcw (i := 302) X (by decide +kernel) wk_X12_302 rfl) (
    okc (ok_istore X (by decide +kernel) rfl) (
    okc (ok_iconst (n := 0) X (by decide +kernel) rfl rfl) (
    okc (ok_istore X (by decide +kernel) rfl) (
    okc (ok_iload X (by decide +kernel) rfl) (
    okc (ok_aload_n (j := 0) X (by decide +kernel) rfl rfl) (
    okc (ok_getI (ci := 12) (kf := 4) (idx := 131) (C := RX12) (T := TX12) (N := 63) X rfl (by decide) inX12 (by decide) wf_X12_131 (fun _ _ _ => rfl) (by decide +kernel) rfl) (
    okc (ok_cge (off := 57) X (by decide +kernel) (by decide) rfl) (
    okc (ok_aload_n (j := 0) X (by decide +kernel) rfl rfl) (
    okc (ok_iload X (by decide +kernel) rfl) (
    okc (ok_iload X (by decide +kernel) rfl) (
    okc (ok_callV (ci := 12) (C := RX12) (T := TX12) (N := 63) (Y := (yX12_mayGo, cX12_mayGo, 3, (some .boolean))) X hcal opsS_n md_X12_mayGo rfl (by decide) rfl wc_X12_mayGo wl_X12_303 wi_X12 wm_X12_mayGo wv_X12_mayGo (by decide +kernel) (hRm 3 (by decide)) (by decide +kernel) rfl) (
    okc (ok_ifeq (off := 40) X (by decide +kernel) (by decide) rfl) (
    okc (ok_aload_n (j := 0) X (by decide +kernel) rfl rfl) (
    okc (ok_getR (ci := 12) (kf := 41) (idx := 90) (C := RX12) (T := TX12) (N := 63) X rfl (by decide) inX12 (by decide) wf_X12_90 (fun _ _ _ => rfl) (by decide +kernel) rfl) (
    okc (ok_bipush (n := 7) X (by decide +kernel) rfl rfl) (
    okc (ok_iload X (by decide +kernel) rfl) (
    okc (ok_iconst (n := 1) X (by decide +kernel) rfl rfl) (
    okc (ok_iadd X (by decide +kernel) rfl) (
    okc (ok_imul X (by decide +kernel) rfl) (
    okc (ok_iload X (by decide +kernel) rfl) (
    okc (ok_iadd X (by decide +kernel) rfl) (
    okc (ok_iald X (by decide +kernel) rfl) (
    okc (ok_iload X (by decide +kernel) rfl) (
    okc (ok_cge (off := 20) X (by decide +kernel) (by decide) rfl) (
    okc (ok_aload_n (j := 0) X (by decide +kernel) rfl rfl) (
    okc (ok_getR (ci := 12) (kf := 41) (idx := 90) (C := RX12) (T := TX12) (N := 63) X rfl (by decide) inX12 (by decide) wf_X12_90 (fun _ _ _ => rfl) (by decide +kernel) rfl) (
    okc (ok_bipush (n := 7) X (by decide +kernel) rfl rfl) (
    okc (ok_iload X (by decide +kernel) rfl) (
    okc (ok_iconst (n := 1) X (by decide +kernel) rfl rfl) (
    okc (ok_iadd X (by decide +kernel) rfl) (
    okc (ok_imul X (by decide +kernel) rfl) (
    okc (ok_iload X (by decide +kernel) rfl) (
    okc (ok_iadd X (by decide +kernel) rfl) (
    okc (ok_iald X (by decide +kernel) rfl) (
    okc (ok_istore X (by decide +kernel) rfl) (
    okc (ok_iinc (n := 1) X (by decide +kernel) rfl rfl) (
    okc (ok_goto (off := -60) X (by decide +kernel) (by decide)) (
    okc (ok_aload_n (j := 0) X (by decide +kernel) rfl rfl) (
    okc (ok_getR (ci := 12) (kf := 41) (idx := 90) (C := RX12) (T := TX12) (N := 63) X rfl (by decide) inX12 (by decide) wf_X12_90 (fun _ _ _ => rfl) (by decide +kernel) rfl) (
    okc (ok_bipush (n := 7) X (by decide +kernel) rfl rfl) (
    okc (ok_iload X (by decide +kernel) rfl) (
    okc (ok_imul X (by decide +kernel) rfl) (
    okc (ok_iload X (by decide +kernel) rfl) (
    okc (ok_iadd X (by decide +kernel) rfl) (
    okc (ok_iload X (by decide +kernel) rfl) (
    okc (ok_ldcw (i := 302) X (by decide +kernel) wk_X12_302 rfl) (
    okc (ok_cne (off := 9) X (by decide +kernel) (by decide) rfl) (
    okc (ok_ldcw (i := 302) X (by decide +kernel) wk_X12_302 rfl) (
    okc (ok_goto (off := 21) X (by decide +kernel) (by decide)) (
    okc (ok_iload X (by decide +kernel) rfl) (
    okc (ok_aload_n (j := 0) X (by decide +kernel) rfl rfl) (
    okc (ok_iload_n (j := 1) X (by decide +kernel) rfl rfl) (
    okc (ok_iload X (by decide +kernel) rfl) (
    okc (ok_iload X (by decide +kernel) rfl) (
    okc (ok_aload_n (j := 0) X (by decide +kernel) rfl rfl) (
    okc (ok_getR (ci := 12) (kf := 13) (idx := 31) (C := RX12) (T := TX12) (N := 63) X rfl (by decide) inX12 (by decide) wf_X12_31 (fun _ _ _ => rfl) (by decide +kernel) rfl) (
    okc (ok_iload_n (j := 1) X (by decide +kernel) rfl rfl) (
    okc (ok_iald X (by decide +kernel) rfl) (
    okc (ok_callV (ci := 12) (C := RX12) (T := TX12) (N := 63) (Y := (yX12_fallsBy, cX12_fallsBy, 9, (some .int))) X hcal opsS_n md_X12_fallsBy rfl (by decide) rfl wc_X12_fallsBy wl_X12_258 wi_X12 wm_X12_fallsBy wv_X12_fallsBy (by decide +kernel) (hRm 9 (by decide)) (by decide +kernel) rfl) (
    okc (ok_iadd X (by decide +kernel) rfl) (
    okc (ok_iast X opsS_ok (by decide +kernel) rfl) (
    okc (ok_iinc (n := 1) X (by decide +kernel) rfl rfl) (
    okc (ok_goto (off := -128) X (by decide +kernel) (by decide)) (
    okc (ok_iinc (n := -1) X (by decide +kernel) rfl rfl) (
    okc (ok_goto (off := -146) X (by decide +kernel) (by decide)) (
    okc (ok_vret hret (by decide +kernel)) (
    okn)))))))))))))))))))))))))))))))))))))))))))))))))))))))))))))))))))))))))))))))))))))))))))))))))))))))))))))))))
noncomputable def es_X12_findRisk  : List (Nat × En) := [(185, en_X12_think), (187, en_X12_fallsBy), (200, en_X12_mayGo)]
noncomputable def ka_X12_findRisk_94  (k65 : Int32 → Int32 → SS → Option SS) (k77 : Int32 → Int32 → Int32 → SS → Option SS) (n : Nat) : Kn SS SS := fun pc ls st s => bif Nat.beq pc 77 then (match ls, st with
    | [some y0, some (.int x1), _, _, some (.int x4), some (.int x5), _, _], [] => (gd (veq y0 (.ref 74)) (k77 x1 x4 x5 s))
    | _, _ => none) else (bif Nat.beq pc 94 then (match ls, st with
    | [some y0, some (.int x1), _, _, some (.int x4), some (.int x5), some (.int x6), some (.int x7)], [] => (gd (veq y0 (.ref 74)) (F_X12_findRisk_94 k65 k77 n x1 x4 x5 x6 x7 s))
    | _, _ => none) else (none))
set_option maxRecDepth 100000 in
set_option maxHeartbeats 4000000 in
theorem eq_X12_findRisk_94  (k65 : Int32 → Int32 → SS → Option SS) (k77 : Int32 → Int32 → Int32 → SS → Option SS)  (n : Nat) (x1 : Int32) (x4 : Int32) (x5 : Int32) (x6 : Int32) (x7 : Int32) (s : SS) : ex (tb_X12_findRisk (calE (es_X12_findRisk))) rV [7, 65, 77, 94] (ka_X12_findRisk_94  k65 k77 n) 115 94 [some (.ref 74), some (.int x1), none, none, some (.int x4), some (.int x5), some (.int x6), some (.int x7)] [] s = F_X12_findRisk_94  k65 k77 (n + 1) x1 x4 x5 x6 x7 s := by
  rfl
noncomputable def ka_X12_findRisk_77  (k65 : Int32 → Int32 → SS → Option SS) (n : Nat) : Kn SS SS := fun pc ls st s => bif Nat.beq pc 65 then (match ls, st with
    | [some y0, some (.int x1), _, _, some (.int x4), _, _, _], [] => (gd (veq y0 (.ref 74)) (k65 x1 x4 s))
    | _, _ => none) else (bif Nat.beq pc 94 then (match ls, st with
    | [some y0, some (.int x1), _, _, some (.int x4), some (.int x5), some (.int x6), some (.int x7)], [] => (gd (veq y0 (.ref 74)) (F_X12_findRisk_94 k65 (F_X12_findRisk_77 k65 n) fuel0 x1 x4 x5 x6 x7 s))
    | _, _ => none) else (none))
set_option maxRecDepth 100000 in
set_option maxHeartbeats 4000000 in
theorem eq_X12_findRisk_77  (k65 : Int32 → Int32 → SS → Option SS)  (n : Nat) (x1 : Int32) (x4 : Int32) (x5 : Int32) (s : SS) : ex (tb_X12_findRisk (calE (es_X12_findRisk))) rV [7, 65, 77, 94] (ka_X12_findRisk_77  k65 n) 115 77 [some (.ref 74), some (.int x1), none, none, some (.int x4), some (.int x5), none, none] [] s = F_X12_findRisk_77  k65 (n + 1) x1 x4 x5 s := by
  rfl
noncomputable def ka_X12_findRisk_65   (n : Nat) : Kn SS SS := fun pc ls st s => bif Nat.beq pc 77 then (match ls, st with
    | [some y0, some (.int x1), _, _, some (.int x4), some (.int x5), _, _], [] => (gd (veq y0 (.ref 74)) (F_X12_findRisk_77 (F_X12_findRisk_65 n) fuel0 x1 x4 x5 s))
    | _, _ => none) else (none)
set_option maxRecDepth 100000 in
set_option maxHeartbeats 4000000 in
theorem eq_X12_findRisk_65    (n : Nat) (x1 : Int32) (x4 : Int32) (s : SS) : ex (tb_X12_findRisk (calE (es_X12_findRisk))) rV [7, 65, 77, 94] (ka_X12_findRisk_65   n) 115 65 [some (.ref 74), some (.int x1), none, none, some (.int x4), none, none, none] [] s = F_X12_findRisk_65   (n + 1) x1 x4 s := by
  rfl
noncomputable def ka_X12_findRisk_7   (n : Nat) : Kn SS SS := fun pc ls st s => bif Nat.beq pc 7 then (match ls, st with
    | [some y0, some (.int x1), some (.int x2), some (.int x3), some (.int x4), _, _, _], [] => (gd (veq y0 (.ref 74)) (F_X12_findRisk_7 n x1 x2 x3 x4 s))
    | _, _ => none) else (bif Nat.beq pc 65 then (match ls, st with
    | [some y0, some (.int x1), _, _, some (.int x4), _, _, _], [] => (gd (veq y0 (.ref 74)) (F_X12_findRisk_65 fuel0 x1 x4 s))
    | _, _ => none) else (none))
set_option maxRecDepth 100000 in
set_option maxHeartbeats 4000000 in
theorem eq_X12_findRisk_7    (n : Nat) (x1 : Int32) (x2 : Int32) (x3 : Int32) (x4 : Int32) (s : SS) : ex (tb_X12_findRisk (calE (es_X12_findRisk))) rV [7, 65, 77, 94] (ka_X12_findRisk_7   n) 115 7 [some (.ref 74), some (.int x1), some (.int x2), some (.int x3), some (.int x4), none, none, none] [] s = F_X12_findRisk_7   (n + 1) x1 x2 x3 x4 s := by
  rfl
set_option maxRecDepth 100000 in
set_option maxHeartbeats 4000000 in
theorem gd_X12_findRisk_94 {ad0 : Nat → Nat} {G : Gm} {A : Nat → Prop} {p : Program} {l : Launch} {e : Env} {R : Room} {s0 : State} {m : MethodId} {args : Array Value} {below : List Frame} {meth : Method} {c : Code} {Q : State → Prop} {r : SS}  {k65 : Int32 → Int32 → SS → Option SS} {k77 : Int32 → Int32 → Int32 → SS → Option SS} (hT : ∀ q ∈ tb_X12_findRisk (calE (es_X12_findRisk)), OKi G A 8 113 6344 ad0 p l e R s0 m args below meth c Q opsS rV r q.1 q.2) (hk65 : ∀ (x1 : Int32) (x4 : Int32) (s : SS), k65 x1 x4 s = some r → Gd G A 8 113 6344 ad0 p l e R s0 m args below meth c Q opsS 65 [some (.ref 74), some (.int x1), none, none, some (.int x4), none, none, none] [] s) (hk77 : ∀ (x1 : Int32) (x4 : Int32) (x5 : Int32) (s : SS), k77 x1 x4 x5 s = some r → Gd G A 8 113 6344 ad0 p l e R s0 m args below meth c Q opsS 77 [some (.ref 74), some (.int x1), none, none, some (.int x4), some (.int x5), none, none] [] s)  : ∀ (n : Nat) (x1 : Int32) (x4 : Int32) (x5 : Int32) (x6 : Int32) (x7 : Int32) (s : SS), F_X12_findRisk_94  k65 k77 n x1 x4 x5 x6 x7 s = some r → Gd G A 8 113 6344 ad0 p l e R s0 m args below meth c Q opsS 94 [some (.ref 74), some (.int x1), none, none, some (.int x4), some (.int x5), some (.int x6), some (.int x7)] [] s := by
  intro n
  induction n with
  | zero =>
    intro x1 x4 x5 x6 x7 s hh
    exact absurd (show (none : Option SS) = some r from hh) (by simp)
  | succ n ih =>
    intro x1 x4 x5 x6 x7 s hh
    rw [← eq_X12_findRisk_94  k65 k77  n x1 x4 x5 x6 x7 s] at hh
    refine ex_good hT (fun pc' ls' st' x' hh => ?_) 115 94 _ [] s hh
    unfold ka_X12_findRisk_94 at hh
    cases hb : Nat.beq pc' 77 with
    | true =>
      rw [hb] at hh
      have e9 := beq1 hb
      subst e9
      simp only [cond_true] at hh
      split at hh
      · obtain ⟨g0, hh1⟩ := gd_some hh
        have e0 := veq_of g0
        subst e0
        exact Gd.wk (hk77 _ _ _ _ hh1) (Lle.eq (Lle.eq (Lle.no (Lle.no (Lle.eq (Lle.eq (Lle.no (Lle.no Lle.nil))))))))
      · cases hh
    | false =>
      rw [hb] at hh
      simp only [cond_false] at hh
      cases hb : Nat.beq pc' 94 with
      | true =>
        rw [hb] at hh
        have e9 := beq1 hb
        subst e9
        simp only [cond_true] at hh
        split at hh
        · obtain ⟨g0, hh1⟩ := gd_some hh
          have e0 := veq_of g0
          subst e0
          exact Gd.wk (ih _ _ _ _ _ _ hh1) (Lle.eq (Lle.eq (Lle.no (Lle.no (Lle.eq (Lle.eq (Lle.eq (Lle.eq Lle.nil))))))))
        · cases hh
      | false =>
        rw [hb] at hh
        simp only [cond_false] at hh
        cases hh

set_option maxRecDepth 100000 in
set_option maxHeartbeats 4000000 in
theorem gd_X12_findRisk_77 {ad0 : Nat → Nat} {G : Gm} {A : Nat → Prop} {p : Program} {l : Launch} {e : Env} {R : Room} {s0 : State} {m : MethodId} {args : Array Value} {below : List Frame} {meth : Method} {c : Code} {Q : State → Prop} {r : SS}  {k65 : Int32 → Int32 → SS → Option SS} (hT : ∀ q ∈ tb_X12_findRisk (calE (es_X12_findRisk)), OKi G A 8 113 6344 ad0 p l e R s0 m args below meth c Q opsS rV r q.1 q.2) (hk65 : ∀ (x1 : Int32) (x4 : Int32) (s : SS), k65 x1 x4 s = some r → Gd G A 8 113 6344 ad0 p l e R s0 m args below meth c Q opsS 65 [some (.ref 74), some (.int x1), none, none, some (.int x4), none, none, none] [] s)  : ∀ (n : Nat) (x1 : Int32) (x4 : Int32) (x5 : Int32) (s : SS), F_X12_findRisk_77  k65 n x1 x4 x5 s = some r → Gd G A 8 113 6344 ad0 p l e R s0 m args below meth c Q opsS 77 [some (.ref 74), some (.int x1), none, none, some (.int x4), some (.int x5), none, none] [] s := by
  intro n
  induction n with
  | zero =>
    intro x1 x4 x5 s hh
    exact absurd (show (none : Option SS) = some r from hh) (by simp)
  | succ n ih =>
    intro x1 x4 x5 s hh
    rw [← eq_X12_findRisk_77  k65  n x1 x4 x5 s] at hh
    refine ex_good hT (fun pc' ls' st' x' hh => ?_) 115 77 _ [] s hh
    unfold ka_X12_findRisk_77 at hh
    cases hb : Nat.beq pc' 65 with
    | true =>
      rw [hb] at hh
      have e9 := beq1 hb
      subst e9
      simp only [cond_true] at hh
      split at hh
      · obtain ⟨g0, hh1⟩ := gd_some hh
        have e0 := veq_of g0
        subst e0
        exact Gd.wk (hk65 _ _ _ hh1) (Lle.eq (Lle.eq (Lle.no (Lle.no (Lle.eq (Lle.no (Lle.no (Lle.no Lle.nil))))))))
      · cases hh
    | false =>
      rw [hb] at hh
      simp only [cond_false] at hh
      cases hb : Nat.beq pc' 94 with
      | true =>
        rw [hb] at hh
        have e9 := beq1 hb
        subst e9
        simp only [cond_true] at hh
        split at hh
        · obtain ⟨g0, hh1⟩ := gd_some hh
          have e0 := veq_of g0
          subst e0
          exact Gd.wk (gd_X12_findRisk_94 hT hk65 ih  _ _ _ _ _ _ _ hh1) (Lle.eq (Lle.eq (Lle.no (Lle.no (Lle.eq (Lle.eq (Lle.eq (Lle.eq Lle.nil))))))))
        · cases hh
      | false =>
        rw [hb] at hh
        simp only [cond_false] at hh
        cases hh

set_option maxRecDepth 100000 in
set_option maxHeartbeats 4000000 in
theorem gd_X12_findRisk_65 {ad0 : Nat → Nat} {G : Gm} {A : Nat → Prop} {p : Program} {l : Launch} {e : Env} {R : Room} {s0 : State} {m : MethodId} {args : Array Value} {below : List Frame} {meth : Method} {c : Code} {Q : State → Prop} {r : SS}   (hT : ∀ q ∈ tb_X12_findRisk (calE (es_X12_findRisk)), OKi G A 8 113 6344 ad0 p l e R s0 m args below meth c Q opsS rV r q.1 q.2)   : ∀ (n : Nat) (x1 : Int32) (x4 : Int32) (s : SS), F_X12_findRisk_65   n x1 x4 s = some r → Gd G A 8 113 6344 ad0 p l e R s0 m args below meth c Q opsS 65 [some (.ref 74), some (.int x1), none, none, some (.int x4), none, none, none] [] s := by
  intro n
  induction n with
  | zero =>
    intro x1 x4 s hh
    exact absurd (show (none : Option SS) = some r from hh) (by simp)
  | succ n ih =>
    intro x1 x4 s hh
    rw [← eq_X12_findRisk_65    n x1 x4 s] at hh
    refine ex_good hT (fun pc' ls' st' x' hh => ?_) 115 65 _ [] s hh
    unfold ka_X12_findRisk_65 at hh
    cases hb : Nat.beq pc' 77 with
    | true =>
      rw [hb] at hh
      have e9 := beq1 hb
      subst e9
      simp only [cond_true] at hh
      split at hh
      · obtain ⟨g0, hh1⟩ := gd_some hh
        have e0 := veq_of g0
        subst e0
        exact Gd.wk (gd_X12_findRisk_77 hT  ih  _ _ _ _ _ hh1) (Lle.eq (Lle.eq (Lle.no (Lle.no (Lle.eq (Lle.eq (Lle.no (Lle.no Lle.nil))))))))
      · cases hh
    | false =>
      rw [hb] at hh
      simp only [cond_false] at hh
      cases hh

set_option maxRecDepth 100000 in
set_option maxHeartbeats 4000000 in
theorem gd_X12_findRisk_7 {ad0 : Nat → Nat} {G : Gm} {A : Nat → Prop} {p : Program} {l : Launch} {e : Env} {R : Room} {s0 : State} {m : MethodId} {args : Array Value} {below : List Frame} {meth : Method} {c : Code} {Q : State → Prop} {r : SS}   (hT : ∀ q ∈ tb_X12_findRisk (calE (es_X12_findRisk)), OKi G A 8 113 6344 ad0 p l e R s0 m args below meth c Q opsS rV r q.1 q.2)   : ∀ (n : Nat) (x1 : Int32) (x2 : Int32) (x3 : Int32) (x4 : Int32) (s : SS), F_X12_findRisk_7   n x1 x2 x3 x4 s = some r → Gd G A 8 113 6344 ad0 p l e R s0 m args below meth c Q opsS 7 [some (.ref 74), some (.int x1), some (.int x2), some (.int x3), some (.int x4), none, none, none] [] s := by
  intro n
  induction n with
  | zero =>
    intro x1 x2 x3 x4 s hh
    exact absurd (show (none : Option SS) = some r from hh) (by simp)
  | succ n ih =>
    intro x1 x2 x3 x4 s hh
    rw [← eq_X12_findRisk_7    n x1 x2 x3 x4 s] at hh
    refine ex_good hT (fun pc' ls' st' x' hh => ?_) 115 7 _ [] s hh
    unfold ka_X12_findRisk_7 at hh
    cases hb : Nat.beq pc' 7 with
    | true =>
      rw [hb] at hh
      have e9 := beq1 hb
      subst e9
      simp only [cond_true] at hh
      split at hh
      · obtain ⟨g0, hh1⟩ := gd_some hh
        have e0 := veq_of g0
        subst e0
        exact Gd.wk (ih _ _ _ _ _ hh1) (Lle.eq (Lle.eq (Lle.eq (Lle.eq (Lle.eq (Lle.no (Lle.no (Lle.no Lle.nil))))))))
      · cases hh
    | false =>
      rw [hb] at hh
      simp only [cond_false] at hh
      cases hb : Nat.beq pc' 65 with
      | true =>
        rw [hb] at hh
        have e9 := beq1 hb
        subst e9
        simp only [cond_true] at hh
        split at hh
        · obtain ⟨g0, hh1⟩ := gd_some hh
          have e0 := veq_of g0
          subst e0
          exact Gd.wk (gd_X12_findRisk_65 hT   _ _ _ _ hh1) (Lle.eq (Lle.eq (Lle.no (Lle.no (Lle.eq (Lle.no (Lle.no (Lle.no Lle.nil))))))))
        · cases hh
      | false =>
        rw [hb] at hh
        simp only [cond_false] at hh
        cases hh

noncomputable def ka_X12_findRisk  : Kn SS SS := fun pc ls st s => bif Nat.beq pc 7 then (match ls, st with
    | [some y0, some (.int x1), some (.int x2), some (.int x3), some (.int x4), _, _, _], [] => (gd (veq y0 (.ref 74)) (F_X12_findRisk_7 fuel0 x1 x2 x3 x4 s))
    | _, _ => none) else (none)
set_option maxRecDepth 100000 in
set_option maxHeartbeats 4000000 in
theorem eq_X12_findRisk   (a0 : Int32) (a1 : Int32) (a2 : Int32) (s : SS) : ex (tb_X12_findRisk (calE (es_X12_findRisk))) rV [7, 65, 77, 94] (ka_X12_findRisk ) 115 0 [some (.ref 74), some (.int a0), some (.int a1), some (.int a2), none, none, none, none] [] s = f_X12_findRisk a0 a1 a2 s := by
  rfl
set_option maxRecDepth 100000 in
set_option maxHeartbeats 4000000 in
theorem run_X12_findRisk {l : Launch} {G : Gm}   (a0 : Int32) (a1 : Int32) (a2 : Int32) (s : SS) (q : SS) (h : f_X12_findRisk a0 a1 a2 s = some q) (D' : Nat) (hD : 4 ≤ D') : RunsM l G (D' + 1) (md 201) (embS s) [.ref 74, .int a0, .int a1, .int a2] none (embS q) := by
  rw [md_X12_findRisk]
  refine runs_V (plainFor_of_name (by decide +kernel)) (Nat.le_of_ble_eq_true rfl) rfl ?_
  intro A p e R s0 m args below meth c Q ad0 hR X hret
  have X : Cx G A RX12 cX12_findRisk 8 p s0 m args c := X
  have hT := tk_X12_findRisk X (calE_ok (es := es_X12_findRisk) (enc (en_X12_think_ok _ (by omega)) (enc (en_X12_fallsBy_ok _ (by omega)) (enc (en_X12_mayGo_ok _ (by omega)) (enn))))) (rmD rfl hR) hret
  rw [← eq_X12_findRisk   a0 a1 a2 s] at h
  refine ex_good hT (fun pc' ls' st' x' hh => ?_) 115 0 _ [] s h
  unfold ka_X12_findRisk at hh
  cases hb : Nat.beq pc' 7 with
  | true =>
    rw [hb] at hh
    have e9 := beq1 hb
    subst e9
    simp only [cond_true] at hh
    split at hh
    · obtain ⟨g0, hh1⟩ := gd_some hh
      have e0 := veq_of g0
      subst e0
      exact Gd.wk (gd_X12_findRisk_7 hT  _ _ _ _ _ _ hh1) (Lle.eq (Lle.eq (Lle.eq (Lle.eq (Lle.eq (Lle.no (Lle.no (Lle.no Lle.nil))))))))
    · cases hh
  | false =>
    rw [hb] at hh
    simp only [cond_false] at hh
    cases hh

noncomputable def en_X12_findRisk  : En := fun _ av s k => match av with
  | [.ref r0, .int a0, .int a1, .int a2] => (gd (Nat.beq r0 74) (bV (f_X12_findRisk a0 a1 a2 s) k))
  | _ => none
set_option maxRecDepth 100000 in
set_option maxHeartbeats 4000000 in
theorem en_X12_findRisk_ok {l : Launch} {G : Gm} (D : Nat) (hD : 5 ≤ D) : enOK l G D 201 en_X12_findRisk := by
  intro ρ av x k r h
  unfold en_X12_findRisk at h
  split at h
  · obtain ⟨g0, h⟩ := gd_some h
    obtain ⟨q, h1, h2⟩ := bind_of h
    have e0 := beq1 g0
    subst e0
    obtain ⟨D', rfl⟩ : ∃ D', D = D' + 1 := ⟨D - 1, by omega⟩
    exact ⟨_, _, h2, run_X12_findRisk  _ _ _ _ _ h1 D' (by omega)⟩
  · cases h

/-! HatRankModel isWalk -/
noncomputable def tb_X12_isWalk (cal : Cal SS) : List (Nat × Ins SS) := [(0, e_iload 2 1), (1, e_iflt 43 4), (4, e_aload 0 5), (5, e_iload 1 6), (6, e_callV opsS cal 151 1 12 9), (9, e_ifeq 43 12), (12, e_aload 0 13), (13, e_iload 2 14), (14, e_iconst (100) 16), (16, e_div aDiv 17), (17, e_callV opsS cal 150 1 12 20), (20, e_ifeq 43 23), (23, e_iload 2 24), (24, e_iconst (100) 26), (26, e_div aRem 27), (27, e_aload 0 28), (28, e_getI opsS 12 1 31), (31, e_iconst (23) 33), (33, e_callS cal 149 3 36), (36, e_ifeq 43 39), (39, e_iconst (1) 40), (40, e_goto 44), (43, e_iconst (0) 44), (44, e_zret)]
set_option maxRecDepth 100000 in
set_option maxHeartbeats 4000000 in
theorem tk_X12_isWalk {ad0 : Nat → Nat} {G : Gm} {A : Nat → Prop} {p : Program} {l : Launch} {e : Env} {R : Room} {s0 : State} {m : MethodId} {args : Array Value} {below : List Frame} {meth : Method} {c : Code} {Q : State → Prop} {ρ : Type} {ret : Option Value → SS → Option ρ} {r : ρ} (X : Cx G A RX12 cX12_isWalk 3 p s0 m args c) {D' : Nat} {cal : Cal SS} (hcal : calOK l G opsS D' cal) (hRm : ∀ k, k ≤ 21 → D' + 1 ≤ R.frames ∧ 8 + (k + 11) + 40 * D' ≤ R.locals) (hret : RetK G A cX12_isWalk 113 6344 ad0 p l e R s0 m args below meth c Q opsS ret r .ireturn okZ) : ∀ q ∈ tb_X12_isWalk cal, OKi G A 3 113 6344 ad0 p l e R s0 m args below meth c Q opsS ret r q.1 q.2 :=
    okc (ok_iload_n (j := 2) X (by decide +kernel) rfl rfl) (
    okc (ok_iflt (off := 42) X (by decide +kernel) (by decide) rfl) (
    okc (ok_aload_n (j := 0) X (by decide +kernel) rfl rfl) (
    okc (ok_iload_n (j := 1) X (by decide +kernel) rfl rfl) (
    okc (ok_callV (ci := 12) (C := RX12) (T := TX12) (N := 63) (Y := (yX12_isPerson, cX12_isPerson, 2, (some .boolean))) X hcal opsS_n md_X12_isPerson rfl (by decide) rfl wc_X12_isPerson wl_X12_175 wi_X12 wm_X12_isPerson wv_X12_isPerson (by decide +kernel) (hRm 2 (by decide)) (by decide +kernel) rfl) (
    okc (ok_ifeq (off := 34) X (by decide +kernel) (by decide) rfl) (
    okc (ok_aload_n (j := 0) X (by decide +kernel) rfl rfl) (
    okc (ok_iload_n (j := 2) X (by decide +kernel) rfl rfl) (
    okc (ok_bipush (n := 100) X (by decide +kernel) rfl rfl) (
    okc (ok_idiv X (by decide +kernel) rfl) (
    okc (ok_callV (ci := 12) (C := RX12) (T := TX12) (N := 63) (Y := (yX12_isPlace, cX12_isPlace, 2, (some .boolean))) X hcal opsS_n md_X12_isPlace rfl (by decide) rfl wc_X12_isPlace wl_X12_144 wi_X12 wm_X12_isPlace wv_X12_isPlace (by decide +kernel) (hRm 2 (by decide)) (by decide +kernel) rfl) (
    okc (ok_ifeq (off := 23) X (by decide +kernel) (by decide) rfl) (
    okc (ok_iload_n (j := 2) X (by decide +kernel) rfl rfl) (
    okc (ok_bipush (n := 100) X (by decide +kernel) rfl rfl) (
    okc (ok_irem X (by decide +kernel) rfl) (
    okc (ok_aload_n (j := 0) X (by decide +kernel) rfl rfl) (
    okc (ok_getI (ci := 12) (kf := 1) (idx := 272) (C := RX12) (T := TX12) (N := 63) X rfl (by decide) inX12 (by decide) wf_X12_272 (fun _ _ _ => rfl) (by decide +kernel) rfl) (
    okc (ok_bipush (n := 23) X (by decide +kernel) rfl rfl) (
    okc (ok_callS (Y := (yX12_in, cX12_in, 3, (some .boolean))) X hcal opsS_n md_X12_in wc_X12_in wl_X12_134 wi_X12 ws_X12_in (by decide +kernel) (hRm 3 (by decide)) (by decide +kernel) rfl) (
    okc (ok_ifeq (off := 7) X (by decide +kernel) (by decide) rfl) (
    okc (ok_iconst (n := 1) X (by decide +kernel) rfl rfl) (
    okc (ok_goto (off := 4) X (by decide +kernel) (by decide)) (
    okc (ok_iconst (n := 0) X (by decide +kernel) rfl rfl) (
    okc (ok_zret hret (by decide +kernel)) (
    okn))))))))))))))))))))))))
noncomputable def es_X12_isWalk  : List (Nat × En) := [(151, en_X12_isPerson), (150, en_X12_isPlace), (149, en_X12_in)]
set_option maxRecDepth 100000 in
set_option maxHeartbeats 4000000 in
theorem eq_X12_isWalk   (a0 : Int32) (a1 : Int32) (s : SS) : ex (tb_X12_isWalk (calE (es_X12_isWalk))) rI [] (fun _ _ _ _ => none) 26 0 [some (.ref 74), some (.int a0), some (.int a1)] [] s = f_X12_isWalk a0 a1 s := by
  rfl
set_option maxRecDepth 100000 in
set_option maxHeartbeats 4000000 in
theorem run_X12_isWalk {l : Launch} {G : Gm}   (a0 : Int32) (a1 : Int32) (s : SS) (q : (Int32 × SS)) (h : f_X12_isWalk a0 a1 s = some q) (D' : Nat) (hD : 2 ≤ D') : RunsM l G (D' + 1) (md 202) (embS s) [.ref 74, .int a0, .int a1] (some (.int q.1)) (embS q.2) := by
  rw [md_X12_isWalk]
  refine runs_Z (plainFor_of_name (by decide +kernel)) (Nat.le_of_ble_eq_true rfl) rfl ?_
  intro A p e R s0 m args below meth c Q ad0 hR X hret
  have X : Cx G A RX12 cX12_isWalk 3 p s0 m args c := X
  have hT := tk_X12_isWalk X (calE_ok (es := es_X12_isWalk) (enc (en_X12_isPerson_ok _ (by omega)) (enc (en_X12_isPlace_ok _ (by omega)) (enc (en_X12_in_ok _ (by omega)) (enn))))) (rmD rfl hR) hret
  rw [← eq_X12_isWalk   a0 a1 s] at h
  refine ex_good hT (fun pc' ls' st' x' hh => ?_) 26 0 _ [] s h
  cases hh

noncomputable def en_X12_isWalk  : En := fun _ av s k => match av with
  | [.ref r0, .int a0, .int a1] => (gd (Nat.beq r0 74) (bI (f_X12_isWalk a0 a1 s) k))
  | _ => none
set_option maxRecDepth 100000 in
set_option maxHeartbeats 4000000 in
theorem en_X12_isWalk_ok {l : Launch} {G : Gm} (D : Nat) (hD : 3 ≤ D) : enOK l G D 202 en_X12_isWalk := by
  intro ρ av x k r h
  unfold en_X12_isWalk at h
  split at h
  · obtain ⟨g0, h⟩ := gd_some h
    obtain ⟨q, h1, h2⟩ := bind_of h
    have e0 := beq1 g0
    subst e0
    obtain ⟨D', rfl⟩ : ∃ D', D = D' + 1 := ⟨D - 1, by omega⟩
    exact ⟨_, _, h2, run_X12_isWalk  _ _ _ _ h1 D' (by omega)⟩
  · cases h

/-! HatRankModel risk -/
noncomputable def tb_X12_risk (cal : Cal SS) : List (Nat × Ins SS) := [(0, e_aload 0 1), (1, e_iload 1 2), (2, e_iload 2 3), (3, e_callV opsS cal 202 2 12 6), (6, e_ifne 11 9), (9, e_iconst (-1) 10), (10, e_iret), (11, e_aload 0 12), (12, e_iload 1 13), (13, e_iload 2 14), (14, e_iconst (100) 16), (16, e_div aDiv 17), (17, e_iload 2 18), (18, e_iconst (100) 20), (20, e_div aRem 21), (21, e_callV opsS cal 201 3 12 24), (24, e_aload 0 25), (25, e_getR opsS 12 41 28), (28, e_iconst (7) 30), (30, e_aload 0 31), (31, e_getI opsS 12 1 34), (34, e_bin aMul 35), (35, e_aload 0 36), (36, e_getR opsS 12 14 39), (39, e_iload 1 40), (40, e_ald opsS 100 41), (41, e_bin aAdd 42), (42, e_ald opsS 100 43), (43, e_istore 3 44), (44, e_iload 3 45), (45, e_iconst (1000000) 48), (48, e_cne 56 51), (51, e_iconst (-2) 53), (53, e_goto 57), (56, e_iload 3 57), (57, e_iret)]
set_option maxRecDepth 100000 in
set_option maxHeartbeats 4000000 in
theorem tk_X12_risk {ad0 : Nat → Nat} {G : Gm} {A : Nat → Prop} {p : Program} {l : Launch} {e : Env} {R : Room} {s0 : State} {m : MethodId} {args : Array Value} {below : List Frame} {meth : Method} {c : Code} {Q : State → Prop} {ρ : Type} {ret : Option Value → SS → Option ρ} {r : ρ} (X : Cx G A RX12 cX12_risk 4 p s0 m args c) {D' : Nat} {cal : Cal SS} (hcal : calOK l G opsS D' cal) (hRm : ∀ k, k ≤ 21 → D' + 1 ≤ R.frames ∧ 8 + (k + 11) + 40 * D' ≤ R.locals) (hret : RetK G A cX12_risk 113 6344 ad0 p l e R s0 m args below meth c Q opsS ret r .ireturn okI) : ∀ q ∈ tb_X12_risk cal, OKi G A 4 113 6344 ad0 p l e R s0 m args below meth c Q opsS ret r q.1 q.2 :=
    okc (ok_aload_n (j := 0) X (by decide +kernel) rfl rfl) (
    okc (ok_iload_n (j := 1) X (by decide +kernel) rfl rfl) (
    okc (ok_iload_n (j := 2) X (by decide +kernel) rfl rfl) (
    okc (ok_callV (ci := 12) (C := RX12) (T := TX12) (N := 63) (Y := (yX12_isWalk, cX12_isWalk, 3, (some .boolean))) X hcal opsS_n md_X12_isWalk rfl (by decide) rfl wc_X12_isWalk wl_X12_306 wi_X12 wm_X12_isWalk wv_X12_isWalk (by decide +kernel) (hRm 3 (by decide)) (by decide +kernel) rfl) (
    okc (ok_ifne (off := 5) X (by decide +kernel) (by decide) rfl) (
    okc (ok_iconst (n := -1) X (by decide +kernel) rfl rfl) (
    okc (ok_iret hret (by decide +kernel)) (
    okc (ok_aload_n (j := 0) X (by decide +kernel) rfl rfl) (
    okc (ok_iload_n (j := 1) X (by decide +kernel) rfl rfl) (
    okc (ok_iload_n (j := 2) X (by decide +kernel) rfl rfl) (
    okc (ok_bipush (n := 100) X (by decide +kernel) rfl rfl) (
    okc (ok_idiv X (by decide +kernel) rfl) (
    okc (ok_iload_n (j := 2) X (by decide +kernel) rfl rfl) (
    okc (ok_bipush (n := 100) X (by decide +kernel) rfl rfl) (
    okc (ok_irem X (by decide +kernel) rfl) (
    okc (ok_callV (ci := 12) (C := RX12) (T := TX12) (N := 63) (Y := (yX12_findRisk, cX12_findRisk, 8, none)) X hcal opsS_n md_X12_findRisk rfl (by decide) rfl wc_X12_findRisk wl_X12_309 wi_X12 wm_X12_findRisk wv_X12_findRisk (by decide +kernel) (hRm 8 (by decide)) (by decide +kernel) rfl) (
    okc (ok_aload_n (j := 0) X (by decide +kernel) rfl rfl) (
    okc (ok_getR (ci := 12) (kf := 41) (idx := 90) (C := RX12) (T := TX12) (N := 63) X rfl (by decide) inX12 (by decide) wf_X12_90 (fun _ _ _ => rfl) (by decide +kernel) rfl) (
    okc (ok_bipush (n := 7) X (by decide +kernel) rfl rfl) (
    okc (ok_aload_n (j := 0) X (by decide +kernel) rfl rfl) (
    okc (ok_getI (ci := 12) (kf := 1) (idx := 272) (C := RX12) (T := TX12) (N := 63) X rfl (by decide) inX12 (by decide) wf_X12_272 (fun _ _ _ => rfl) (by decide +kernel) rfl) (
    okc (ok_imul X (by decide +kernel) rfl) (
    okc (ok_aload_n (j := 0) X (by decide +kernel) rfl rfl) (
    okc (ok_getR (ci := 12) (kf := 14) (idx := 34) (C := RX12) (T := TX12) (N := 63) X rfl (by decide) inX12 (by decide) wf_X12_34 (fun _ _ _ => rfl) (by decide +kernel) rfl) (
    okc (ok_iload_n (j := 1) X (by decide +kernel) rfl rfl) (
    okc (ok_iald X (by decide +kernel) rfl) (
    okc (ok_iadd X (by decide +kernel) rfl) (
    okc (ok_iald X (by decide +kernel) rfl) (
    okc (ok_istore_n (j := 3) X (by decide +kernel) rfl rfl) (
    okc (ok_iload_n (j := 3) X (by decide +kernel) rfl rfl) (
    okc (ok_ldcw (i := 302) X (by decide +kernel) wk_X12_302 rfl) (
    okc (ok_cne (off := 8) X (by decide +kernel) (by decide) rfl) (
    okc (ok_bipush (n := -2) X (by decide +kernel) rfl rfl) (
    okc (ok_goto (off := 4) X (by decide +kernel) (by decide)) (
    okc (ok_iload_n (j := 3) X (by decide +kernel) rfl rfl) (
    okc (ok_iret hret (by decide +kernel)) (
    okn))))))))))))))))))))))))))))))))))))
noncomputable def es_X12_risk  : List (Nat × En) := [(202, en_X12_isWalk), (201, en_X12_findRisk)]
set_option maxRecDepth 100000 in
set_option maxHeartbeats 4000000 in
theorem eq_X12_risk   (a0 : Int32) (a1 : Int32) (s : SS) : ex (tb_X12_risk (calE (es_X12_risk))) rI [] (fun _ _ _ _ => none) 38 0 [some (.ref 74), some (.int a0), some (.int a1), none] [] s = f_X12_risk a0 a1 s := by
  rfl
set_option maxRecDepth 100000 in
set_option maxHeartbeats 4000000 in
theorem run_X12_risk {l : Launch} {G : Gm}   (a0 : Int32) (a1 : Int32) (s : SS) (q : (Int32 × SS)) (h : f_X12_risk a0 a1 s = some q) (D' : Nat) (hD : 5 ≤ D') : RunsM l G (D' + 1) (md 203) (embS s) [.ref 74, .int a0, .int a1] (some (.int q.1)) (embS q.2) := by
  rw [md_X12_risk]
  refine runs_I (plainFor_of_name (by decide +kernel)) (Nat.le_of_ble_eq_true rfl) rfl ?_
  intro A p e R s0 m args below meth c Q ad0 hR X hret
  have X : Cx G A RX12 cX12_risk 4 p s0 m args c := X
  have hT := tk_X12_risk X (calE_ok (es := es_X12_risk) (enc (en_X12_isWalk_ok _ (by omega)) (enc (en_X12_findRisk_ok _ (by omega)) (enn)))) (rmD rfl hR) hret
  rw [← eq_X12_risk   a0 a1 s] at h
  refine ex_good hT (fun pc' ls' st' x' hh => ?_) 38 0 _ [] s h
  cases hh

noncomputable def en_X12_risk  : En := fun _ av s k => match av with
  | [.ref r0, .int a0, .int a1] => (gd (Nat.beq r0 74) (bI (f_X12_risk a0 a1 s) k))
  | _ => none
set_option maxRecDepth 100000 in
set_option maxHeartbeats 4000000 in
theorem en_X12_risk_ok {l : Launch} {G : Gm} (D : Nat) (hD : 6 ≤ D) : enOK l G D 203 en_X12_risk := by
  intro ρ av x k r h
  unfold en_X12_risk at h
  split at h
  · obtain ⟨g0, h⟩ := gd_some h
    obtain ⟨q, h1, h2⟩ := bind_of h
    have e0 := beq1 g0
    subst e0
    obtain ⟨D', rfl⟩ : ∃ D', D = D' + 1 := ⟨D - 1, by omega⟩
    exact ⟨_, _, h2, run_X12_risk  _ _ _ _ h1 D' (by omega)⟩
  · cases h

/-! HatRankModel walk -/
noncomputable def tb_X12_walk (cal : Cal SS) : List (Nat × Ins SS) := [(0, e_aload 0 1), (1, e_iload 1 2), (2, e_iload 2 3), (3, e_callV opsS cal 202 2 12 6), (6, e_ifeq 24 9), (9, e_iload 3 10), (10, e_aload 0 11), (11, e_getI opsS 12 1 14), (14, e_iload 2 15), (15, e_iconst (100) 17), (17, e_div aRem 18), (18, e_callS cal 149 3 21), (21, e_ifne 26 24), (24, e_iconst (-1) 25), (25, e_iret), (26, e_aload 0 27), (27, e_iload 1 28), (28, e_iload 2 29), (29, e_iconst (100) 31), (31, e_div aDiv 32), (32, e_iload 2 33), (33, e_iconst (100) 35), (35, e_div aRem 36), (36, e_callV opsS cal 201 3 12 39), (39, e_aload 0 40), (40, e_getR opsS 12 14 43), (43, e_iload 1 44), (44, e_ald opsS 100 45), (45, e_istore 4 47), (47, e_aload 0 48), (48, e_getR opsS 12 41 51), (51, e_iconst (7) 53), (53, e_aload 0 54), (54, e_getI opsS 12 1 57), (57, e_bin aMul 58), (58, e_iload 4 60), (60, e_bin aAdd 61), (61, e_ald opsS 100 62), (62, e_iconst (1000000) 65), (65, e_cne 71 68), (68, e_iconst (-2) 70), (70, e_iret), (71, e_aload 0 72), (72, e_getI opsS 12 1 75), (75, e_istore 5 77), (77, e_iload 5 79), (79, e_iload 3 80), (80, e_cge 164 83), (83, e_aload 0 84), (84, e_getR opsS 12 41 87), (87, e_iconst (7) 89), (89, e_iload 5 91), (91, e_bin aMul 92), (92, e_iload 4 94), (94, e_bin aAdd 95), (95, e_ald opsS 100 96), (96, e_aload 0 97), (97, e_iload 1 98), (98, e_iload 5 100), (100, e_iload 4 102), (102, e_aload 0 103), (103, e_getR opsS 12 13 106), (106, e_iload 1 107), (107, e_ald opsS 100 108), (108, e_callV opsS cal 187 4 12 111), (111, e_bin aSub 112), (112, e_istore 6 114), (114, e_iconst (0) 115), (115, e_istore 7 117), (117, e_aload 0 118), (118, e_iload 4 120), (120, e_iload 7 122), (122, e_callV opsS cal 200 2 12 125), (125, e_ifeq 148 128), (128, e_aload 0 129), (129, e_getR opsS 12 41 132), (132, e_iconst (7) 134), (134, e_iload 5 136), (136, e_iconst (1) 137), (137, e_bin aAdd 138), (138, e_bin aMul 139), (139, e_iload 7 141), (141, e_bin aAdd 142), (142, e_ald opsS 100 143), (143, e_iload 6 145), (145, e_ceq 154 148), (148, e_iinc 7 (1) 151), (151, e_goto 117), (154, e_iload 7 156), (156, e_istore 4 158), (158, e_iinc 5 (1) 161), (161, e_goto 77), (164, e_iload 4 166), (166, e_iret)]
set_option maxRecDepth 100000 in
set_option maxHeartbeats 4000000 in
theorem tk_X12_walk {ad0 : Nat → Nat} {G : Gm} {A : Nat → Prop} {p : Program} {l : Launch} {e : Env} {R : Room} {s0 : State} {m : MethodId} {args : Array Value} {below : List Frame} {meth : Method} {c : Code} {Q : State → Prop} {ρ : Type} {ret : Option Value → SS → Option ρ} {r : ρ} (X : Cx G A RX12 cX12_walk 8 p s0 m args c) {D' : Nat} {cal : Cal SS} (hcal : calOK l G opsS D' cal) (hRm : ∀ k, k ≤ 21 → D' + 1 ≤ R.frames ∧ 8 + (k + 11) + 40 * D' ≤ R.locals) (hret : RetK G A cX12_walk 113 6344 ad0 p l e R s0 m args below meth c Q opsS ret r .ireturn okI) : ∀ q ∈ tb_X12_walk cal, OKi G A 8 113 6344 ad0 p l e R s0 m args below meth c Q opsS ret r q.1 q.2 :=
    okc (ok_aload_n (j := 0) X (by decide +kernel) rfl rfl) (
    okc (ok_iload_n (j := 1) X (by decide +kernel) rfl rfl) (
    okc (ok_iload_n (j := 2) X (by decide +kernel) rfl rfl) (
    okc (ok_callV (ci := 12) (C := RX12) (T := TX12) (N := 63) (Y := (yX12_isWalk, cX12_isWalk, 3, (some .boolean))) X hcal opsS_n md_X12_isWalk rfl (by decide) rfl wc_X12_isWalk wl_X12_306 wi_X12 wm_X12_isWalk wv_X12_isWalk (by decide +kernel) (hRm 3 (by decide)) (by decide +kernel) rfl) (
    okc (ok_ifeq (off := 18) X (by decide +kernel) (by decide) rfl) (
    okc (ok_iload_n (j := 3) X (by decide +kernel) rfl rfl) (
    okc (ok_aload_n (j := 0) X (by decide +kernel) rfl rfl) (
    okc (ok_getI (ci := 12) (kf := 1) (idx := 272) (C := RX12) (T := TX12) (N := 63) X rfl (by decide) inX12 (by decide) wf_X12_272 (fun _ _ _ => rfl) (by decide +kernel) rfl) (
    okc (ok_iload_n (j := 2) X (by decide +kernel) rfl rfl) (
    okc (ok_bipush (n := 100) X (by decide +kernel) rfl rfl) (
    okc (ok_irem X (by decide +kernel) rfl) (
    okc (ok_callS (Y := (yX12_in, cX12_in, 3, (some .boolean))) X hcal opsS_n md_X12_in wc_X12_in wl_X12_134 wi_X12 ws_X12_in (by decide +kernel) (hRm 3 (by decide)) (by decide +kernel) rfl) (
    okc (ok_ifne (off := 5) X (by decide +kernel) (by decide) rfl) (
    okc (ok_iconst (n := -1) X (by decide +kernel) rfl rfl) (
    okc (ok_iret hret (by decide +kernel)) (
    okc (ok_aload_n (j := 0) X (by decide +kernel) rfl rfl) (
    okc (ok_iload_n (j := 1) X (by decide +kernel) rfl rfl) (
    okc (ok_iload_n (j := 2) X (by decide +kernel) rfl rfl) (
    okc (ok_bipush (n := 100) X (by decide +kernel) rfl rfl) (
    okc (ok_idiv X (by decide +kernel) rfl) (
    okc (ok_iload_n (j := 2) X (by decide +kernel) rfl rfl) (
    okc (ok_bipush (n := 100) X (by decide +kernel) rfl rfl) (
    okc (ok_irem X (by decide +kernel) rfl) (
    okc (ok_callV (ci := 12) (C := RX12) (T := TX12) (N := 63) (Y := (yX12_findRisk, cX12_findRisk, 8, none)) X hcal opsS_n md_X12_findRisk rfl (by decide) rfl wc_X12_findRisk wl_X12_309 wi_X12 wm_X12_findRisk wv_X12_findRisk (by decide +kernel) (hRm 8 (by decide)) (by decide +kernel) rfl) (
    okc (ok_aload_n (j := 0) X (by decide +kernel) rfl rfl) (
    okc (ok_getR (ci := 12) (kf := 14) (idx := 34) (C := RX12) (T := TX12) (N := 63) X rfl (by decide) inX12 (by decide) wf_X12_34 (fun _ _ _ => rfl) (by decide +kernel) rfl) (
    okc (ok_iload_n (j := 1) X (by decide +kernel) rfl rfl) (
    okc (ok_iald X (by decide +kernel) rfl) (
    okc (ok_istore X (by decide +kernel) rfl) (
    okc (ok_aload_n (j := 0) X (by decide +kernel) rfl rfl) (
    okc (ok_getR (ci := 12) (kf := 41) (idx := 90) (C := RX12) (T := TX12) (N := 63) X rfl (by decide) inX12 (by decide) wf_X12_90 (fun _ _ _ => rfl) (by decide +kernel) rfl) (
    okc (ok_bipush (n := 7) X (by decide +kernel) rfl rfl) (
    okc (ok_aload_n (j := 0) X (by decide +kernel) rfl rfl) (
    okc (ok_getI (ci := 12) (kf := 1) (idx := 272) (C := RX12) (T := TX12) (N := 63) X rfl (by decide) inX12 (by decide) wf_X12_272 (fun _ _ _ => rfl) (by decide +kernel) rfl) (
    okc (ok_imul X (by decide +kernel) rfl) (
    okc (ok_iload X (by decide +kernel) rfl) (
    okc (ok_iadd X (by decide +kernel) rfl) (
    okc (ok_iald X (by decide +kernel) rfl) (
    okc (ok_ldcw (i := 302) X (by decide +kernel) wk_X12_302 rfl) (
    okc (ok_cne (off := 6) X (by decide +kernel) (by decide) rfl) (
    okc (ok_bipush (n := -2) X (by decide +kernel) rfl rfl) (
    okc (ok_iret hret (by decide +kernel)) (
    okc (ok_aload_n (j := 0) X (by decide +kernel) rfl rfl) (
    okc (ok_getI (ci := 12) (kf := 1) (idx := 272) (C := RX12) (T := TX12) (N := 63) X rfl (by decide) inX12 (by decide) wf_X12_272 (fun _ _ _ => rfl) (by decide +kernel) rfl) (
    okc (ok_istore X (by decide +kernel) rfl) (
    okc (ok_iload X (by decide +kernel) rfl) (
    okc (ok_iload_n (j := 3) X (by decide +kernel) rfl rfl) (
    okc (ok_cge (off := 84) X (by decide +kernel) (by decide) rfl) (
    okc (ok_aload_n (j := 0) X (by decide +kernel) rfl rfl) (
    okc (ok_getR (ci := 12) (kf := 41) (idx := 90) (C := RX12) (T := TX12) (N := 63) X rfl (by decide) inX12 (by decide) wf_X12_90 (fun _ _ _ => rfl) (by decide +kernel) rfl) (
    okc (ok_bipush (n := 7) X (by decide +kernel) rfl rfl) (
    okc (ok_iload X (by decide +kernel) rfl) (
    okc (ok_imul X (by decide +kernel) rfl) (
    okc (ok_iload X (by decide +kernel) rfl) (
    okc (ok_iadd X (by decide +kernel) rfl) (
    okc (ok_iald X (by decide +kernel) rfl) (
    okc (ok_aload_n (j := 0) X (by decide +kernel) rfl rfl) (
    okc (ok_iload_n (j := 1) X (by decide +kernel) rfl rfl) (
    okc (ok_iload X (by decide +kernel) rfl) (
    okc (ok_iload X (by decide +kernel) rfl) (
    okc (ok_aload_n (j := 0) X (by decide +kernel) rfl rfl) (
    okc (ok_getR (ci := 12) (kf := 13) (idx := 31) (C := RX12) (T := TX12) (N := 63) X rfl (by decide) inX12 (by decide) wf_X12_31 (fun _ _ _ => rfl) (by decide +kernel) rfl) (
    okc (ok_iload_n (j := 1) X (by decide +kernel) rfl rfl) (
    okc (ok_iald X (by decide +kernel) rfl) (
    okc (ok_callV (ci := 12) (C := RX12) (T := TX12) (N := 63) (Y := (yX12_fallsBy, cX12_fallsBy, 9, (some .int))) X hcal opsS_n md_X12_fallsBy rfl (by decide) rfl wc_X12_fallsBy wl_X12_258 wi_X12 wm_X12_fallsBy wv_X12_fallsBy (by decide +kernel) (hRm 9 (by decide)) (by decide +kernel) rfl) (
    okc (ok_isub X (by decide +kernel) rfl) (
    okc (ok_istore X (by decide +kernel) rfl) (
    okc (ok_iconst (n := 0) X (by decide +kernel) rfl rfl) (
    okc (ok_istore X (by decide +kernel) rfl) (
    okc (ok_aload_n (j := 0) X (by decide +kernel) rfl rfl) (
    okc (ok_iload X (by decide +kernel) rfl) (
    okc (ok_iload X (by decide +kernel) rfl) (
    okc (ok_callV (ci := 12) (C := RX12) (T := TX12) (N := 63) (Y := (yX12_mayGo, cX12_mayGo, 3, (some .boolean))) X hcal opsS_n md_X12_mayGo rfl (by decide) rfl wc_X12_mayGo wl_X12_303 wi_X12 wm_X12_mayGo wv_X12_mayGo (by decide +kernel) (hRm 3 (by decide)) (by decide +kernel) rfl) (
    okc (ok_ifeq (off := 23) X (by decide +kernel) (by decide) rfl) (
    okc (ok_aload_n (j := 0) X (by decide +kernel) rfl rfl) (
    okc (ok_getR (ci := 12) (kf := 41) (idx := 90) (C := RX12) (T := TX12) (N := 63) X rfl (by decide) inX12 (by decide) wf_X12_90 (fun _ _ _ => rfl) (by decide +kernel) rfl) (
    okc (ok_bipush (n := 7) X (by decide +kernel) rfl rfl) (
    okc (ok_iload X (by decide +kernel) rfl) (
    okc (ok_iconst (n := 1) X (by decide +kernel) rfl rfl) (
    okc (ok_iadd X (by decide +kernel) rfl) (
    okc (ok_imul X (by decide +kernel) rfl) (
    okc (ok_iload X (by decide +kernel) rfl) (
    okc (ok_iadd X (by decide +kernel) rfl) (
    okc (ok_iald X (by decide +kernel) rfl) (
    okc (ok_iload X (by decide +kernel) rfl) (
    okc (ok_ceq (off := 9) X (by decide +kernel) (by decide) rfl) (
    okc (ok_iinc (n := 1) X (by decide +kernel) rfl rfl) (
    okc (ok_goto (off := -34) X (by decide +kernel) (by decide)) (
    okc (ok_iload X (by decide +kernel) rfl) (
    okc (ok_istore X (by decide +kernel) rfl) (
    okc (ok_iinc (n := 1) X (by decide +kernel) rfl rfl) (
    okc (ok_goto (off := -84) X (by decide +kernel) (by decide)) (
    okc (ok_iload X (by decide +kernel) rfl) (
    okc (ok_iret hret (by decide +kernel)) (
    okn))))))))))))))))))))))))))))))))))))))))))))))))))))))))))))))))))))))))))))))))))))))))))))))
noncomputable def es_X12_walk  : List (Nat × En) := [(202, en_X12_isWalk), (149, en_X12_in), (201, en_X12_findRisk), (187, en_X12_fallsBy), (200, en_X12_mayGo)]
noncomputable def ka_X12_walk_117  (k77 : Int32 → Int32 → Int32 → Int32 → SS → Option (Int32 × SS)) (n : Nat) : Kn SS (Int32 × SS) := fun pc ls st s => bif Nat.beq pc 77 then (match ls, st with
    | [some y0, some (.int x1), _, some (.int x3), some (.int x4), some (.int x5), _, _], [] => (gd (veq y0 (.ref 74)) (k77 x1 x3 x4 x5 s))
    | _, _ => none) else (bif Nat.beq pc 117 then (match ls, st with
    | [some y0, some (.int x1), _, some (.int x3), some (.int x4), some (.int x5), some (.int x6), some (.int x7)], [] => (gd (veq y0 (.ref 74)) (F_X12_walk_117 k77 n x1 x3 x4 x5 x6 x7 s))
    | _, _ => none) else (none))
set_option maxRecDepth 100000 in
set_option maxHeartbeats 4000000 in
theorem eq_X12_walk_117  (k77 : Int32 → Int32 → Int32 → Int32 → SS → Option (Int32 × SS))  (n : Nat) (x1 : Int32) (x3 : Int32) (x4 : Int32) (x5 : Int32) (x6 : Int32) (x7 : Int32) (s : SS) : ex (tb_X12_walk (calE (es_X12_walk))) rI [77, 117] (ka_X12_walk_117  k77 n) 96 117 [some (.ref 74), some (.int x1), none, some (.int x3), some (.int x4), some (.int x5), some (.int x6), some (.int x7)] [] s = F_X12_walk_117  k77 (n + 1) x1 x3 x4 x5 x6 x7 s := by
  rfl
noncomputable def ka_X12_walk_77   (n : Nat) : Kn SS (Int32 × SS) := fun pc ls st s => bif Nat.beq pc 117 then (match ls, st with
    | [some y0, some (.int x1), _, some (.int x3), some (.int x4), some (.int x5), some (.int x6), some (.int x7)], [] => (gd (veq y0 (.ref 74)) (F_X12_walk_117 (F_X12_walk_77 n) fuel0 x1 x3 x4 x5 x6 x7 s))
    | _, _ => none) else (none)
set_option maxRecDepth 100000 in
set_option maxHeartbeats 4000000 in
theorem eq_X12_walk_77    (n : Nat) (x1 : Int32) (x3 : Int32) (x4 : Int32) (x5 : Int32) (s : SS) : ex (tb_X12_walk (calE (es_X12_walk))) rI [77, 117] (ka_X12_walk_77   n) 96 77 [some (.ref 74), some (.int x1), none, some (.int x3), some (.int x4), some (.int x5), none, none] [] s = F_X12_walk_77   (n + 1) x1 x3 x4 x5 s := by
  rfl
set_option maxRecDepth 100000 in
set_option maxHeartbeats 4000000 in
theorem gd_X12_walk_117 {ad0 : Nat → Nat} {G : Gm} {A : Nat → Prop} {p : Program} {l : Launch} {e : Env} {R : Room} {s0 : State} {m : MethodId} {args : Array Value} {below : List Frame} {meth : Method} {c : Code} {Q : State → Prop} {r : (Int32 × SS)}  {k77 : Int32 → Int32 → Int32 → Int32 → SS → Option (Int32 × SS)} (hT : ∀ q ∈ tb_X12_walk (calE (es_X12_walk)), OKi G A 8 113 6344 ad0 p l e R s0 m args below meth c Q opsS rI r q.1 q.2) (hk77 : ∀ (x1 : Int32) (x3 : Int32) (x4 : Int32) (x5 : Int32) (s : SS), k77 x1 x3 x4 x5 s = some r → Gd G A 8 113 6344 ad0 p l e R s0 m args below meth c Q opsS 77 [some (.ref 74), some (.int x1), none, some (.int x3), some (.int x4), some (.int x5), none, none] [] s)  : ∀ (n : Nat) (x1 : Int32) (x3 : Int32) (x4 : Int32) (x5 : Int32) (x6 : Int32) (x7 : Int32) (s : SS), F_X12_walk_117  k77 n x1 x3 x4 x5 x6 x7 s = some r → Gd G A 8 113 6344 ad0 p l e R s0 m args below meth c Q opsS 117 [some (.ref 74), some (.int x1), none, some (.int x3), some (.int x4), some (.int x5), some (.int x6), some (.int x7)] [] s := by
  intro n
  induction n with
  | zero =>
    intro x1 x3 x4 x5 x6 x7 s hh
    exact absurd (show (none : Option (Int32 × SS)) = some r from hh) (by simp)
  | succ n ih =>
    intro x1 x3 x4 x5 x6 x7 s hh
    rw [← eq_X12_walk_117  k77  n x1 x3 x4 x5 x6 x7 s] at hh
    refine ex_good hT (fun pc' ls' st' x' hh => ?_) 96 117 _ [] s hh
    unfold ka_X12_walk_117 at hh
    cases hb : Nat.beq pc' 77 with
    | true =>
      rw [hb] at hh
      have e9 := beq1 hb
      subst e9
      simp only [cond_true] at hh
      split at hh
      · obtain ⟨g0, hh1⟩ := gd_some hh
        have e0 := veq_of g0
        subst e0
        exact Gd.wk (hk77 _ _ _ _ _ hh1) (Lle.eq (Lle.eq (Lle.no (Lle.eq (Lle.eq (Lle.eq (Lle.no (Lle.no Lle.nil))))))))
      · cases hh
    | false =>
      rw [hb] at hh
      simp only [cond_false] at hh
      cases hb : Nat.beq pc' 117 with
      | true =>
        rw [hb] at hh
        have e9 := beq1 hb
        subst e9
        simp only [cond_true] at hh
        split at hh
        · obtain ⟨g0, hh1⟩ := gd_some hh
          have e0 := veq_of g0
          subst e0
          exact Gd.wk (ih _ _ _ _ _ _ _ hh1) (Lle.eq (Lle.eq (Lle.no (Lle.eq (Lle.eq (Lle.eq (Lle.eq (Lle.eq Lle.nil))))))))
        · cases hh
      | false =>
        rw [hb] at hh
        simp only [cond_false] at hh
        cases hh

set_option maxRecDepth 100000 in
set_option maxHeartbeats 4000000 in
theorem gd_X12_walk_77 {ad0 : Nat → Nat} {G : Gm} {A : Nat → Prop} {p : Program} {l : Launch} {e : Env} {R : Room} {s0 : State} {m : MethodId} {args : Array Value} {below : List Frame} {meth : Method} {c : Code} {Q : State → Prop} {r : (Int32 × SS)}   (hT : ∀ q ∈ tb_X12_walk (calE (es_X12_walk)), OKi G A 8 113 6344 ad0 p l e R s0 m args below meth c Q opsS rI r q.1 q.2)   : ∀ (n : Nat) (x1 : Int32) (x3 : Int32) (x4 : Int32) (x5 : Int32) (s : SS), F_X12_walk_77   n x1 x3 x4 x5 s = some r → Gd G A 8 113 6344 ad0 p l e R s0 m args below meth c Q opsS 77 [some (.ref 74), some (.int x1), none, some (.int x3), some (.int x4), some (.int x5), none, none] [] s := by
  intro n
  induction n with
  | zero =>
    intro x1 x3 x4 x5 s hh
    exact absurd (show (none : Option (Int32 × SS)) = some r from hh) (by simp)
  | succ n ih =>
    intro x1 x3 x4 x5 s hh
    rw [← eq_X12_walk_77    n x1 x3 x4 x5 s] at hh
    refine ex_good hT (fun pc' ls' st' x' hh => ?_) 96 77 _ [] s hh
    unfold ka_X12_walk_77 at hh
    cases hb : Nat.beq pc' 117 with
    | true =>
      rw [hb] at hh
      have e9 := beq1 hb
      subst e9
      simp only [cond_true] at hh
      split at hh
      · obtain ⟨g0, hh1⟩ := gd_some hh
        have e0 := veq_of g0
        subst e0
        exact Gd.wk (gd_X12_walk_117 hT  ih  _ _ _ _ _ _ _ _ hh1) (Lle.eq (Lle.eq (Lle.no (Lle.eq (Lle.eq (Lle.eq (Lle.eq (Lle.eq Lle.nil))))))))
      · cases hh
    | false =>
      rw [hb] at hh
      simp only [cond_false] at hh
      cases hh

noncomputable def ka_X12_walk  : Kn SS (Int32 × SS) := fun pc ls st s => bif Nat.beq pc 77 then (match ls, st with
    | [some y0, some (.int x1), _, some (.int x3), some (.int x4), some (.int x5), _, _], [] => (gd (veq y0 (.ref 74)) (F_X12_walk_77 fuel0 x1 x3 x4 x5 s))
    | _, _ => none) else (none)
set_option maxRecDepth 100000 in
set_option maxHeartbeats 4000000 in
theorem eq_X12_walk   (a0 : Int32) (a1 : Int32) (a2 : Int32) (s : SS) : ex (tb_X12_walk (calE (es_X12_walk))) rI [77, 117] (ka_X12_walk ) 96 0 [some (.ref 74), some (.int a0), some (.int a1), some (.int a2), none, none, none, none] [] s = f_X12_walk a0 a1 a2 s := by
  rfl
set_option maxRecDepth 100000 in
set_option maxHeartbeats 4000000 in
theorem run_X12_walk {l : Launch} {G : Gm}   (a0 : Int32) (a1 : Int32) (a2 : Int32) (s : SS) (q : (Int32 × SS)) (h : f_X12_walk a0 a1 a2 s = some q) (D' : Nat) (hD : 5 ≤ D') : RunsM l G (D' + 1) (md 204) (embS s) [.ref 74, .int a0, .int a1, .int a2] (some (.int q.1)) (embS q.2) := by
  rw [md_X12_walk]
  refine runs_I (plainFor_of_name (by decide +kernel)) (Nat.le_of_ble_eq_true rfl) rfl ?_
  intro A p e R s0 m args below meth c Q ad0 hR X hret
  have X : Cx G A RX12 cX12_walk 8 p s0 m args c := X
  have hT := tk_X12_walk X (calE_ok (es := es_X12_walk) (enc (en_X12_isWalk_ok _ (by omega)) (enc (en_X12_in_ok _ (by omega)) (enc (en_X12_findRisk_ok _ (by omega)) (enc (en_X12_fallsBy_ok _ (by omega)) (enc (en_X12_mayGo_ok _ (by omega)) (enn))))))) (rmD rfl hR) hret
  rw [← eq_X12_walk   a0 a1 a2 s] at h
  refine ex_good hT (fun pc' ls' st' x' hh => ?_) 96 0 _ [] s h
  unfold ka_X12_walk at hh
  cases hb : Nat.beq pc' 77 with
  | true =>
    rw [hb] at hh
    have e9 := beq1 hb
    subst e9
    simp only [cond_true] at hh
    split at hh
    · obtain ⟨g0, hh1⟩ := gd_some hh
      have e0 := veq_of g0
      subst e0
      exact Gd.wk (gd_X12_walk_77 hT  _ _ _ _ _ _ hh1) (Lle.eq (Lle.eq (Lle.no (Lle.eq (Lle.eq (Lle.eq (Lle.no (Lle.no Lle.nil))))))))
    · cases hh
  | false =>
    rw [hb] at hh
    simp only [cond_false] at hh
    cases hh

noncomputable def en_X12_walk  : En := fun _ av s k => match av with
  | [.ref r0, .int a0, .int a1, .int a2] => (gd (Nat.beq r0 74) (bI (f_X12_walk a0 a1 a2 s) k))
  | _ => none
set_option maxRecDepth 100000 in
set_option maxHeartbeats 4000000 in
theorem en_X12_walk_ok {l : Launch} {G : Gm} (D : Nat) (hD : 6 ≤ D) : enOK l G D 204 en_X12_walk := by
  intro ρ av x k r h
  unfold en_X12_walk at h
  split at h
  · obtain ⟨g0, h⟩ := gd_some h
    obtain ⟨q, h1, h2⟩ := bind_of h
    have e0 := beq1 g0
    subst e0
    obtain ⟨D', rfl⟩ : ∃ D', D = D' + 1 := ⟨D - 1, by omega⟩
    exact ⟨_, _, h2, run_X12_walk  _ _ _ _ _ h1 D' (by omega)⟩
  · cases h

/-! HatRankModel keepThen -/
noncomputable def tb_X12_keepThen (cal : Cal SS) : List (Nat × Ins SS) := [(0, e_iconst (0) 1), (1, e_istore 2 2), (2, e_iload 2 3), (3, e_iconst (6) 5), (5, e_cge 31 8), (8, e_aload 0 9), (9, e_getR opsS 12 42 12), (12, e_iconst (6) 14), (14, e_iload 1 15), (15, e_bin aMul 16), (16, e_iload 2 17), (17, e_bin aAdd 18), (18, e_aload 0 19), (19, e_getR opsS 12 36 22), (22, e_iload 2 23), (23, e_ald opsS 100 24), (24, e_ast opsS 100 (fun v => v) 25), (25, e_iinc 2 (1) 28), (28, e_goto 2), (31, e_iconst (0) 32), (32, e_istore 2 33), (33, e_iload 2 34), (34, e_iconst (7) 36), (36, e_cge 62 39), (39, e_aload 0 40), (40, e_getR opsS 12 43 43), (43, e_iconst (7) 45), (45, e_iload 1 46), (46, e_bin aMul 47), (47, e_iload 2 48), (48, e_bin aAdd 49), (49, e_aload 0 50), (50, e_getR opsS 12 38 53), (53, e_iload 2 54), (54, e_ald opsS 100 55), (55, e_ast opsS 100 (fun v => v) 56), (56, e_iinc 2 (1) 59), (59, e_goto 33), (62, e_vret)]
set_option maxRecDepth 100000 in
set_option maxHeartbeats 4000000 in
theorem tk_X12_keepThen {ad0 : Nat → Nat} {G : Gm} {A : Nat → Prop} {p : Program} {l : Launch} {e : Env} {R : Room} {s0 : State} {m : MethodId} {args : Array Value} {below : List Frame} {meth : Method} {c : Code} {Q : State → Prop} {ρ : Type} {ret : Option Value → SS → Option ρ} {r : ρ} (X : Cx G A RX12 cX12_keepThen 3 p s0 m args c) {D' : Nat} {cal : Cal SS} (hcal : calOK l G opsS D' cal) (hRm : ∀ k, k ≤ 21 → D' + 1 ≤ R.frames ∧ 8 + (k + 11) + 40 * D' ≤ R.locals) (hret : RetK G A cX12_keepThen 113 6344 ad0 p l e R s0 m args below meth c Q opsS ret r .return_ okV) : ∀ q ∈ tb_X12_keepThen cal, OKi G A 3 113 6344 ad0 p l e R s0 m args below meth c Q opsS ret r q.1 q.2 :=
    okc (ok_iconst (n := 0) X (by decide +kernel) rfl rfl) (
    okc (ok_istore_n (j := 2) X (by decide +kernel) rfl rfl) (
    okc (ok_iload_n (j := 2) X (by decide +kernel) rfl rfl) (
    okc (ok_bipush (n := 6) X (by decide +kernel) rfl rfl) (
    okc (ok_cge (off := 26) X (by decide +kernel) (by decide) rfl) (
    okc (ok_aload_n (j := 0) X (by decide +kernel) rfl rfl) (
    okc (ok_getR (ci := 12) (kf := 42) (idx := 93) (C := RX12) (T := TX12) (N := 63) X rfl (by decide) inX12 (by decide) wf_X12_93 (fun _ _ _ => rfl) (by decide +kernel) rfl) (
    okc (ok_bipush (n := 6) X (by decide +kernel) rfl rfl) (
    okc (ok_iload_n (j := 1) X (by decide +kernel) rfl rfl) (
    okc (ok_imul X (by decide +kernel) rfl) (
    okc (ok_iload_n (j := 2) X (by decide +kernel) rfl rfl) (
    okc (ok_iadd X (by decide +kernel) rfl) (
    okc (ok_aload_n (j := 0) X (by decide +kernel) rfl rfl) (
    okc (ok_getR (ci := 12) (kf := 36) (idx := 78) (C := RX12) (T := TX12) (N := 63) X rfl (by decide) inX12 (by decide) wf_X12_78 (fun _ _ _ => rfl) (by decide +kernel) rfl) (
    okc (ok_iload_n (j := 2) X (by decide +kernel) rfl rfl) (
    okc (ok_iald X (by decide +kernel) rfl) (
    okc (ok_iast X opsS_ok (by decide +kernel) rfl) (
    okc (ok_iinc (n := 1) X (by decide +kernel) rfl rfl) (
    okc (ok_goto (off := -26) X (by decide +kernel) (by decide)) (
    okc (ok_iconst (n := 0) X (by decide +kernel) rfl rfl) (
    okc (ok_istore_n (j := 2) X (by decide +kernel) rfl rfl) (
    okc (ok_iload_n (j := 2) X (by decide +kernel) rfl rfl) (
    okc (ok_bipush (n := 7) X (by decide +kernel) rfl rfl) (
    okc (ok_cge (off := 26) X (by decide +kernel) (by decide) rfl) (
    okc (ok_aload_n (j := 0) X (by decide +kernel) rfl rfl) (
    okc (ok_getR (ci := 12) (kf := 43) (idx := 96) (C := RX12) (T := TX12) (N := 63) X rfl (by decide) inX12 (by decide) wf_X12_96 (fun _ _ _ => rfl) (by decide +kernel) rfl) (
    okc (ok_bipush (n := 7) X (by decide +kernel) rfl rfl) (
    okc (ok_iload_n (j := 1) X (by decide +kernel) rfl rfl) (
    okc (ok_imul X (by decide +kernel) rfl) (
    okc (ok_iload_n (j := 2) X (by decide +kernel) rfl rfl) (
    okc (ok_iadd X (by decide +kernel) rfl) (
    okc (ok_aload_n (j := 0) X (by decide +kernel) rfl rfl) (
    okc (ok_getR (ci := 12) (kf := 38) (idx := 84) (C := RX12) (T := TX12) (N := 63) X rfl (by decide) inX12 (by decide) wf_X12_84 (fun _ _ _ => rfl) (by decide +kernel) rfl) (
    okc (ok_iload_n (j := 2) X (by decide +kernel) rfl rfl) (
    okc (ok_iald X (by decide +kernel) rfl) (
    okc (ok_iast X opsS_ok (by decide +kernel) rfl) (
    okc (ok_iinc (n := 1) X (by decide +kernel) rfl rfl) (
    okc (ok_goto (off := -26) X (by decide +kernel) (by decide)) (
    okc (ok_vret hret (by decide +kernel)) (
    okn)))))))))))))))))))))))))))))))))))))))
noncomputable def es_X12_keepThen  : List (Nat × En) := []
noncomputable def ka_X12_keepThen_33   (n : Nat) : Kn SS SS := fun pc ls st s => bif Nat.beq pc 33 then (match ls, st with
    | [some y0, some (.int x1), some (.int x2)], [] => (gd (veq y0 (.ref 74)) (F_X12_keepThen_33 n x1 x2 s))
    | _, _ => none) else (none)
set_option maxRecDepth 100000 in
set_option maxHeartbeats 4000000 in
theorem eq_X12_keepThen_33    (n : Nat) (x1 : Int32) (x2 : Int32) (s : SS) : ex (tb_X12_keepThen (calE (es_X12_keepThen))) rV [2, 33] (ka_X12_keepThen_33   n) 41 33 [some (.ref 74), some (.int x1), some (.int x2)] [] s = F_X12_keepThen_33   (n + 1) x1 x2 s := by
  rfl
noncomputable def ka_X12_keepThen_2   (n : Nat) : Kn SS SS := fun pc ls st s => bif Nat.beq pc 2 then (match ls, st with
    | [some y0, some (.int x1), some (.int x2)], [] => (gd (veq y0 (.ref 74)) (F_X12_keepThen_2 n x1 x2 s))
    | _, _ => none) else (bif Nat.beq pc 33 then (match ls, st with
    | [some y0, some (.int x1), some (.int x2)], [] => (gd (veq y0 (.ref 74)) (F_X12_keepThen_33 fuel0 x1 x2 s))
    | _, _ => none) else (none))
set_option maxRecDepth 100000 in
set_option maxHeartbeats 4000000 in
theorem eq_X12_keepThen_2    (n : Nat) (x1 : Int32) (x2 : Int32) (s : SS) : ex (tb_X12_keepThen (calE (es_X12_keepThen))) rV [2, 33] (ka_X12_keepThen_2   n) 41 2 [some (.ref 74), some (.int x1), some (.int x2)] [] s = F_X12_keepThen_2   (n + 1) x1 x2 s := by
  rfl
set_option maxRecDepth 100000 in
set_option maxHeartbeats 4000000 in
theorem gd_X12_keepThen_33 {ad0 : Nat → Nat} {G : Gm} {A : Nat → Prop} {p : Program} {l : Launch} {e : Env} {R : Room} {s0 : State} {m : MethodId} {args : Array Value} {below : List Frame} {meth : Method} {c : Code} {Q : State → Prop} {r : SS}   (hT : ∀ q ∈ tb_X12_keepThen (calE (es_X12_keepThen)), OKi G A 3 113 6344 ad0 p l e R s0 m args below meth c Q opsS rV r q.1 q.2)   : ∀ (n : Nat) (x1 : Int32) (x2 : Int32) (s : SS), F_X12_keepThen_33   n x1 x2 s = some r → Gd G A 3 113 6344 ad0 p l e R s0 m args below meth c Q opsS 33 [some (.ref 74), some (.int x1), some (.int x2)] [] s := by
  intro n
  induction n with
  | zero =>
    intro x1 x2 s hh
    exact absurd (show (none : Option SS) = some r from hh) (by simp)
  | succ n ih =>
    intro x1 x2 s hh
    rw [← eq_X12_keepThen_33    n x1 x2 s] at hh
    refine ex_good hT (fun pc' ls' st' x' hh => ?_) 41 33 _ [] s hh
    unfold ka_X12_keepThen_33 at hh
    cases hb : Nat.beq pc' 33 with
    | true =>
      rw [hb] at hh
      have e9 := beq1 hb
      subst e9
      simp only [cond_true] at hh
      split at hh
      · obtain ⟨g0, hh1⟩ := gd_some hh
        have e0 := veq_of g0
        subst e0
        exact Gd.wk (ih _ _ _ hh1) (Lle.eq (Lle.eq (Lle.eq Lle.nil)))
      · cases hh
    | false =>
      rw [hb] at hh
      simp only [cond_false] at hh
      cases hh

set_option maxRecDepth 100000 in
set_option maxHeartbeats 4000000 in
theorem gd_X12_keepThen_2 {ad0 : Nat → Nat} {G : Gm} {A : Nat → Prop} {p : Program} {l : Launch} {e : Env} {R : Room} {s0 : State} {m : MethodId} {args : Array Value} {below : List Frame} {meth : Method} {c : Code} {Q : State → Prop} {r : SS}   (hT : ∀ q ∈ tb_X12_keepThen (calE (es_X12_keepThen)), OKi G A 3 113 6344 ad0 p l e R s0 m args below meth c Q opsS rV r q.1 q.2)   : ∀ (n : Nat) (x1 : Int32) (x2 : Int32) (s : SS), F_X12_keepThen_2   n x1 x2 s = some r → Gd G A 3 113 6344 ad0 p l e R s0 m args below meth c Q opsS 2 [some (.ref 74), some (.int x1), some (.int x2)] [] s := by
  intro n
  induction n with
  | zero =>
    intro x1 x2 s hh
    exact absurd (show (none : Option SS) = some r from hh) (by simp)
  | succ n ih =>
    intro x1 x2 s hh
    rw [← eq_X12_keepThen_2    n x1 x2 s] at hh
    refine ex_good hT (fun pc' ls' st' x' hh => ?_) 41 2 _ [] s hh
    unfold ka_X12_keepThen_2 at hh
    cases hb : Nat.beq pc' 2 with
    | true =>
      rw [hb] at hh
      have e9 := beq1 hb
      subst e9
      simp only [cond_true] at hh
      split at hh
      · obtain ⟨g0, hh1⟩ := gd_some hh
        have e0 := veq_of g0
        subst e0
        exact Gd.wk (ih _ _ _ hh1) (Lle.eq (Lle.eq (Lle.eq Lle.nil)))
      · cases hh
    | false =>
      rw [hb] at hh
      simp only [cond_false] at hh
      cases hb : Nat.beq pc' 33 with
      | true =>
        rw [hb] at hh
        have e9 := beq1 hb
        subst e9
        simp only [cond_true] at hh
        split at hh
        · obtain ⟨g0, hh1⟩ := gd_some hh
          have e0 := veq_of g0
          subst e0
          exact Gd.wk (gd_X12_keepThen_33 hT   _ _ _ _ hh1) (Lle.eq (Lle.eq (Lle.eq Lle.nil)))
        · cases hh
      | false =>
        rw [hb] at hh
        simp only [cond_false] at hh
        cases hh

noncomputable def ka_X12_keepThen  : Kn SS SS := fun pc ls st s => bif Nat.beq pc 2 then (match ls, st with
    | [some y0, some (.int x1), some (.int x2)], [] => (gd (veq y0 (.ref 74)) (F_X12_keepThen_2 fuel0 x1 x2 s))
    | _, _ => none) else (none)
set_option maxRecDepth 100000 in
set_option maxHeartbeats 4000000 in
theorem eq_X12_keepThen   (a0 : Int32) (s : SS) : ex (tb_X12_keepThen (calE (es_X12_keepThen))) rV [2, 33] (ka_X12_keepThen ) 41 0 [some (.ref 74), some (.int a0), none] [] s = f_X12_keepThen a0 s := by
  rfl
set_option maxRecDepth 100000 in
set_option maxHeartbeats 4000000 in
theorem run_X12_keepThen {l : Launch} {G : Gm}   (a0 : Int32) (s : SS) (q : SS) (h : f_X12_keepThen a0 s = some q) (D' : Nat) (hD : 0 ≤ D') : RunsM l G (D' + 1) (md 205) (embS s) [.ref 74, .int a0] none (embS q) := by
  rw [md_X12_keepThen]
  refine runs_V (plainFor_of_name (by decide +kernel)) (Nat.le_of_ble_eq_true rfl) rfl ?_
  intro A p e R s0 m args below meth c Q ad0 hR X hret
  have X : Cx G A RX12 cX12_keepThen 3 p s0 m args c := X
  have hT := tk_X12_keepThen X (calE_ok (es := es_X12_keepThen) (enn)) (rmD rfl hR) hret
  rw [← eq_X12_keepThen   a0 s] at h
  refine ex_good hT (fun pc' ls' st' x' hh => ?_) 41 0 _ [] s h
  unfold ka_X12_keepThen at hh
  cases hb : Nat.beq pc' 2 with
  | true =>
    rw [hb] at hh
    have e9 := beq1 hb
    subst e9
    simp only [cond_true] at hh
    split at hh
    · obtain ⟨g0, hh1⟩ := gd_some hh
      have e0 := veq_of g0
      subst e0
      exact Gd.wk (gd_X12_keepThen_2 hT  _ _ _ _ hh1) (Lle.eq (Lle.eq (Lle.eq Lle.nil)))
    · cases hh
  | false =>
    rw [hb] at hh
    simp only [cond_false] at hh
    cases hh

noncomputable def en_X12_keepThen  : En := fun _ av s k => match av with
  | [.ref r0, .int a0] => (gd (Nat.beq r0 74) (bV (f_X12_keepThen a0 s) k))
  | _ => none
set_option maxRecDepth 100000 in
set_option maxHeartbeats 4000000 in
theorem en_X12_keepThen_ok {l : Launch} {G : Gm} (D : Nat) (hD : 1 ≤ D) : enOK l G D 205 en_X12_keepThen := by
  intro ρ av x k r h
  unfold en_X12_keepThen at h
  split at h
  · obtain ⟨g0, h⟩ := gd_some h
    obtain ⟨q, h1, h2⟩ := bind_of h
    have e0 := beq1 g0
    subst e0
    obtain ⟨D', rfl⟩ : ∃ D', D = D' + 1 := ⟨D - 1, by omega⟩
    exact ⟨_, _, h2, run_X12_keepThen  _ _ _ h1 D' (by omega)⟩
  · cases h

/-! HatRankModel layBack -/
noncomputable def tb_X12_layBack (cal : Cal SS) : List (Nat × Ins SS) := [(0, e_iconst (0) 1), (1, e_istore 2 2), (2, e_iload 2 3), (3, e_iconst (6) 5), (5, e_cge 31 8), (8, e_aload 0 9), (9, e_getR opsS 12 36 12), (12, e_iload 2 13), (13, e_aload 0 14), (14, e_getR opsS 12 42 17), (17, e_iconst (6) 19), (19, e_iload 1 20), (20, e_bin aMul 21), (21, e_iload 2 22), (22, e_bin aAdd 23), (23, e_ald opsS 100 24), (24, e_ast opsS 100 (fun v => v) 25), (25, e_iinc 2 (1) 28), (28, e_goto 2), (31, e_iconst (0) 32), (32, e_istore 2 33), (33, e_iload 2 34), (34, e_iconst (7) 36), (36, e_cge 62 39), (39, e_aload 0 40), (40, e_getR opsS 12 38 43), (43, e_iload 2 44), (44, e_aload 0 45), (45, e_getR opsS 12 43 48), (48, e_iconst (7) 50), (50, e_iload 1 51), (51, e_bin aMul 52), (52, e_iload 2 53), (53, e_bin aAdd 54), (54, e_ald opsS 100 55), (55, e_ast opsS 100 (fun v => v) 56), (56, e_iinc 2 (1) 59), (59, e_goto 33), (62, e_vret)]
set_option maxRecDepth 100000 in
set_option maxHeartbeats 4000000 in
theorem tk_X12_layBack {ad0 : Nat → Nat} {G : Gm} {A : Nat → Prop} {p : Program} {l : Launch} {e : Env} {R : Room} {s0 : State} {m : MethodId} {args : Array Value} {below : List Frame} {meth : Method} {c : Code} {Q : State → Prop} {ρ : Type} {ret : Option Value → SS → Option ρ} {r : ρ} (X : Cx G A RX12 cX12_layBack 3 p s0 m args c) {D' : Nat} {cal : Cal SS} (hcal : calOK l G opsS D' cal) (hRm : ∀ k, k ≤ 21 → D' + 1 ≤ R.frames ∧ 8 + (k + 11) + 40 * D' ≤ R.locals) (hret : RetK G A cX12_layBack 113 6344 ad0 p l e R s0 m args below meth c Q opsS ret r .return_ okV) : ∀ q ∈ tb_X12_layBack cal, OKi G A 3 113 6344 ad0 p l e R s0 m args below meth c Q opsS ret r q.1 q.2 :=
    okc (ok_iconst (n := 0) X (by decide +kernel) rfl rfl) (
    okc (ok_istore_n (j := 2) X (by decide +kernel) rfl rfl) (
    okc (ok_iload_n (j := 2) X (by decide +kernel) rfl rfl) (
    okc (ok_bipush (n := 6) X (by decide +kernel) rfl rfl) (
    okc (ok_cge (off := 26) X (by decide +kernel) (by decide) rfl) (
    okc (ok_aload_n (j := 0) X (by decide +kernel) rfl rfl) (
    okc (ok_getR (ci := 12) (kf := 36) (idx := 78) (C := RX12) (T := TX12) (N := 63) X rfl (by decide) inX12 (by decide) wf_X12_78 (fun _ _ _ => rfl) (by decide +kernel) rfl) (
    okc (ok_iload_n (j := 2) X (by decide +kernel) rfl rfl) (
    okc (ok_aload_n (j := 0) X (by decide +kernel) rfl rfl) (
    okc (ok_getR (ci := 12) (kf := 42) (idx := 93) (C := RX12) (T := TX12) (N := 63) X rfl (by decide) inX12 (by decide) wf_X12_93 (fun _ _ _ => rfl) (by decide +kernel) rfl) (
    okc (ok_bipush (n := 6) X (by decide +kernel) rfl rfl) (
    okc (ok_iload_n (j := 1) X (by decide +kernel) rfl rfl) (
    okc (ok_imul X (by decide +kernel) rfl) (
    okc (ok_iload_n (j := 2) X (by decide +kernel) rfl rfl) (
    okc (ok_iadd X (by decide +kernel) rfl) (
    okc (ok_iald X (by decide +kernel) rfl) (
    okc (ok_iast X opsS_ok (by decide +kernel) rfl) (
    okc (ok_iinc (n := 1) X (by decide +kernel) rfl rfl) (
    okc (ok_goto (off := -26) X (by decide +kernel) (by decide)) (
    okc (ok_iconst (n := 0) X (by decide +kernel) rfl rfl) (
    okc (ok_istore_n (j := 2) X (by decide +kernel) rfl rfl) (
    okc (ok_iload_n (j := 2) X (by decide +kernel) rfl rfl) (
    okc (ok_bipush (n := 7) X (by decide +kernel) rfl rfl) (
    okc (ok_cge (off := 26) X (by decide +kernel) (by decide) rfl) (
    okc (ok_aload_n (j := 0) X (by decide +kernel) rfl rfl) (
    okc (ok_getR (ci := 12) (kf := 38) (idx := 84) (C := RX12) (T := TX12) (N := 63) X rfl (by decide) inX12 (by decide) wf_X12_84 (fun _ _ _ => rfl) (by decide +kernel) rfl) (
    okc (ok_iload_n (j := 2) X (by decide +kernel) rfl rfl) (
    okc (ok_aload_n (j := 0) X (by decide +kernel) rfl rfl) (
    okc (ok_getR (ci := 12) (kf := 43) (idx := 96) (C := RX12) (T := TX12) (N := 63) X rfl (by decide) inX12 (by decide) wf_X12_96 (fun _ _ _ => rfl) (by decide +kernel) rfl) (
    okc (ok_bipush (n := 7) X (by decide +kernel) rfl rfl) (
    okc (ok_iload_n (j := 1) X (by decide +kernel) rfl rfl) (
    okc (ok_imul X (by decide +kernel) rfl) (
    okc (ok_iload_n (j := 2) X (by decide +kernel) rfl rfl) (
    okc (ok_iadd X (by decide +kernel) rfl) (
    okc (ok_iald X (by decide +kernel) rfl) (
    okc (ok_iast X opsS_ok (by decide +kernel) rfl) (
    okc (ok_iinc (n := 1) X (by decide +kernel) rfl rfl) (
    okc (ok_goto (off := -26) X (by decide +kernel) (by decide)) (
    okc (ok_vret hret (by decide +kernel)) (
    okn)))))))))))))))))))))))))))))))))))))))
noncomputable def es_X12_layBack  : List (Nat × En) := []
noncomputable def ka_X12_layBack_33   (n : Nat) : Kn SS SS := fun pc ls st s => bif Nat.beq pc 33 then (match ls, st with
    | [some y0, some (.int x1), some (.int x2)], [] => (gd (veq y0 (.ref 74)) (F_X12_layBack_33 n x1 x2 s))
    | _, _ => none) else (none)
set_option maxRecDepth 100000 in
set_option maxHeartbeats 4000000 in
theorem eq_X12_layBack_33    (n : Nat) (x1 : Int32) (x2 : Int32) (s : SS) : ex (tb_X12_layBack (calE (es_X12_layBack))) rV [2, 33] (ka_X12_layBack_33   n) 41 33 [some (.ref 74), some (.int x1), some (.int x2)] [] s = F_X12_layBack_33   (n + 1) x1 x2 s := by
  rfl
noncomputable def ka_X12_layBack_2   (n : Nat) : Kn SS SS := fun pc ls st s => bif Nat.beq pc 2 then (match ls, st with
    | [some y0, some (.int x1), some (.int x2)], [] => (gd (veq y0 (.ref 74)) (F_X12_layBack_2 n x1 x2 s))
    | _, _ => none) else (bif Nat.beq pc 33 then (match ls, st with
    | [some y0, some (.int x1), some (.int x2)], [] => (gd (veq y0 (.ref 74)) (F_X12_layBack_33 fuel0 x1 x2 s))
    | _, _ => none) else (none))
set_option maxRecDepth 100000 in
set_option maxHeartbeats 4000000 in
theorem eq_X12_layBack_2    (n : Nat) (x1 : Int32) (x2 : Int32) (s : SS) : ex (tb_X12_layBack (calE (es_X12_layBack))) rV [2, 33] (ka_X12_layBack_2   n) 41 2 [some (.ref 74), some (.int x1), some (.int x2)] [] s = F_X12_layBack_2   (n + 1) x1 x2 s := by
  rfl
set_option maxRecDepth 100000 in
set_option maxHeartbeats 4000000 in
theorem gd_X12_layBack_33 {ad0 : Nat → Nat} {G : Gm} {A : Nat → Prop} {p : Program} {l : Launch} {e : Env} {R : Room} {s0 : State} {m : MethodId} {args : Array Value} {below : List Frame} {meth : Method} {c : Code} {Q : State → Prop} {r : SS}   (hT : ∀ q ∈ tb_X12_layBack (calE (es_X12_layBack)), OKi G A 3 113 6344 ad0 p l e R s0 m args below meth c Q opsS rV r q.1 q.2)   : ∀ (n : Nat) (x1 : Int32) (x2 : Int32) (s : SS), F_X12_layBack_33   n x1 x2 s = some r → Gd G A 3 113 6344 ad0 p l e R s0 m args below meth c Q opsS 33 [some (.ref 74), some (.int x1), some (.int x2)] [] s := by
  intro n
  induction n with
  | zero =>
    intro x1 x2 s hh
    exact absurd (show (none : Option SS) = some r from hh) (by simp)
  | succ n ih =>
    intro x1 x2 s hh
    rw [← eq_X12_layBack_33    n x1 x2 s] at hh
    refine ex_good hT (fun pc' ls' st' x' hh => ?_) 41 33 _ [] s hh
    unfold ka_X12_layBack_33 at hh
    cases hb : Nat.beq pc' 33 with
    | true =>
      rw [hb] at hh
      have e9 := beq1 hb
      subst e9
      simp only [cond_true] at hh
      split at hh
      · obtain ⟨g0, hh1⟩ := gd_some hh
        have e0 := veq_of g0
        subst e0
        exact Gd.wk (ih _ _ _ hh1) (Lle.eq (Lle.eq (Lle.eq Lle.nil)))
      · cases hh
    | false =>
      rw [hb] at hh
      simp only [cond_false] at hh
      cases hh

set_option maxRecDepth 100000 in
set_option maxHeartbeats 4000000 in
theorem gd_X12_layBack_2 {ad0 : Nat → Nat} {G : Gm} {A : Nat → Prop} {p : Program} {l : Launch} {e : Env} {R : Room} {s0 : State} {m : MethodId} {args : Array Value} {below : List Frame} {meth : Method} {c : Code} {Q : State → Prop} {r : SS}   (hT : ∀ q ∈ tb_X12_layBack (calE (es_X12_layBack)), OKi G A 3 113 6344 ad0 p l e R s0 m args below meth c Q opsS rV r q.1 q.2)   : ∀ (n : Nat) (x1 : Int32) (x2 : Int32) (s : SS), F_X12_layBack_2   n x1 x2 s = some r → Gd G A 3 113 6344 ad0 p l e R s0 m args below meth c Q opsS 2 [some (.ref 74), some (.int x1), some (.int x2)] [] s := by
  intro n
  induction n with
  | zero =>
    intro x1 x2 s hh
    exact absurd (show (none : Option SS) = some r from hh) (by simp)
  | succ n ih =>
    intro x1 x2 s hh
    rw [← eq_X12_layBack_2    n x1 x2 s] at hh
    refine ex_good hT (fun pc' ls' st' x' hh => ?_) 41 2 _ [] s hh
    unfold ka_X12_layBack_2 at hh
    cases hb : Nat.beq pc' 2 with
    | true =>
      rw [hb] at hh
      have e9 := beq1 hb
      subst e9
      simp only [cond_true] at hh
      split at hh
      · obtain ⟨g0, hh1⟩ := gd_some hh
        have e0 := veq_of g0
        subst e0
        exact Gd.wk (ih _ _ _ hh1) (Lle.eq (Lle.eq (Lle.eq Lle.nil)))
      · cases hh
    | false =>
      rw [hb] at hh
      simp only [cond_false] at hh
      cases hb : Nat.beq pc' 33 with
      | true =>
        rw [hb] at hh
        have e9 := beq1 hb
        subst e9
        simp only [cond_true] at hh
        split at hh
        · obtain ⟨g0, hh1⟩ := gd_some hh
          have e0 := veq_of g0
          subst e0
          exact Gd.wk (gd_X12_layBack_33 hT   _ _ _ _ hh1) (Lle.eq (Lle.eq (Lle.eq Lle.nil)))
        · cases hh
      | false =>
        rw [hb] at hh
        simp only [cond_false] at hh
        cases hh

noncomputable def ka_X12_layBack  : Kn SS SS := fun pc ls st s => bif Nat.beq pc 2 then (match ls, st with
    | [some y0, some (.int x1), some (.int x2)], [] => (gd (veq y0 (.ref 74)) (F_X12_layBack_2 fuel0 x1 x2 s))
    | _, _ => none) else (none)
set_option maxRecDepth 100000 in
set_option maxHeartbeats 4000000 in
theorem eq_X12_layBack   (a0 : Int32) (s : SS) : ex (tb_X12_layBack (calE (es_X12_layBack))) rV [2, 33] (ka_X12_layBack ) 41 0 [some (.ref 74), some (.int a0), none] [] s = f_X12_layBack a0 s := by
  rfl
set_option maxRecDepth 100000 in
set_option maxHeartbeats 4000000 in
theorem run_X12_layBack {l : Launch} {G : Gm}   (a0 : Int32) (s : SS) (q : SS) (h : f_X12_layBack a0 s = some q) (D' : Nat) (hD : 0 ≤ D') : RunsM l G (D' + 1) (md 206) (embS s) [.ref 74, .int a0] none (embS q) := by
  rw [md_X12_layBack]
  refine runs_V (plainFor_of_name (by decide +kernel)) (Nat.le_of_ble_eq_true rfl) rfl ?_
  intro A p e R s0 m args below meth c Q ad0 hR X hret
  have X : Cx G A RX12 cX12_layBack 3 p s0 m args c := X
  have hT := tk_X12_layBack X (calE_ok (es := es_X12_layBack) (enn)) (rmD rfl hR) hret
  rw [← eq_X12_layBack   a0 s] at h
  refine ex_good hT (fun pc' ls' st' x' hh => ?_) 41 0 _ [] s h
  unfold ka_X12_layBack at hh
  cases hb : Nat.beq pc' 2 with
  | true =>
    rw [hb] at hh
    have e9 := beq1 hb
    subst e9
    simp only [cond_true] at hh
    split at hh
    · obtain ⟨g0, hh1⟩ := gd_some hh
      have e0 := veq_of g0
      subst e0
      exact Gd.wk (gd_X12_layBack_2 hT  _ _ _ _ hh1) (Lle.eq (Lle.eq (Lle.eq Lle.nil)))
    · cases hh
  | false =>
    rw [hb] at hh
    simp only [cond_false] at hh
    cases hh

noncomputable def en_X12_layBack  : En := fun _ av s k => match av with
  | [.ref r0, .int a0] => (gd (Nat.beq r0 74) (bV (f_X12_layBack a0 s) k))
  | _ => none
set_option maxRecDepth 100000 in
set_option maxHeartbeats 4000000 in
theorem en_X12_layBack_ok {l : Launch} {G : Gm} (D : Nat) (hD : 1 ≤ D) : enOK l G D 206 en_X12_layBack := by
  intro ρ av x k r h
  unfold en_X12_layBack at h
  split at h
  · obtain ⟨g0, h⟩ := gd_some h
    obtain ⟨q, h1, h2⟩ := bind_of h
    have e0 := beq1 g0
    subst e0
    obtain ⟨D', rfl⟩ : ∃ D', D = D' + 1 := ⟨D - 1, by omega⟩
    exact ⟨_, _, h2, run_X12_layBack  _ _ _ h1 D' (by omega)⟩
  · cases h

def rc_X12G (l : Launch) (G : Gm) (D : Nat) (rc : Nat → Int32 → Int32 → Int32 → Int64 → SS → Option SS) : Prop := (∀ (a0 : Int32) (a1 : Int32) (a2 : Int32) (a3 : Int64) (s : SS) (q : SS), rc 0 a0 a1 a2 a3 s = some q → RunsM l G D (md 207) (embS s) [.ref 74, .int a0, .int a1, .int a2, .long a3] none (embS q))
noncomputable def en_X12_goThrough (rc : Nat → Int32 → Int32 → Int32 → Int64 → SS → Option SS) : En := fun _ av s k => match av with
  | [.ref r0, .int a0, .int a1, .int a2, .long a3] => (gd (Nat.beq r0 74) (bV (rc 0 a0 a1 a2 a3 s) k))
  | _ => none
set_option maxRecDepth 100000 in
set_option maxHeartbeats 4000000 in
theorem en_X12_goThrough_ok {l : Launch} {G : Gm} {D : Nat} {rc : Nat → Int32 → Int32 → Int32 → Int64 → SS → Option SS} (hrc : rc_X12G l G D rc) : enOK l G D 207 (en_X12_goThrough rc) := by
  intro ρ av x k r h
  unfold en_X12_goThrough at h
  split at h
  · obtain ⟨g0, h⟩ := gd_some h
    obtain ⟨q, h1, h2⟩ := bind_of h
    have e0 := beq1 g0
    subst e0
    exact ⟨_, _, h2, hrc _ _ _ _ _ _ h1⟩
  · cases h

/-! HatRankModel goThrough -/
noncomputable def tb_X12_goThrough (cal : Cal SS) : List (Nat × Ins SS) := [(0, e_lload 4 2), (2, e_lconst (0) 3), (3, e_lcmp 4), (4, e_ifne 8 7), (7, e_vret), (8, e_iload 1 9), (9, e_aload 0 10), (10, e_getI opsS 12 44 13), (13, e_cne 65 16), (16, e_aload 0 17), (17, e_aload 0 18), (18, e_getR opsS 12 36 21), (21, e_callV opsS cal 189 1 12 24), (24, e_aload 0 25), (25, e_getI opsS 12 45 28), (28, e_cne 42 31), (31, e_aload 0 32), (32, e_dup 33), (33, e_getL opsS 12 46 36), (36, e_lload 4 38), (38, e_lbin lAdd 39), (39, e_putL opsS 12 46 42), (42, e_aload 0 43), (43, e_dup 44), (44, e_getL opsS 12 47 47), (47, e_lload 4 49), (49, e_aload 0 50), (50, e_getR opsS 12 36 53), (53, e_aload 0 54), (54, e_getI opsS 12 45 57), (57, e_ald opsS 100 58), (58, e_i2l 59), (59, e_lbin lMul 60), (60, e_lbin lAdd 61), (61, e_putL opsS 12 47 64), (64, e_vret), (65, e_iload 2 66), (66, e_ifne 73 69), (69, e_aload 0 70), (70, e_callV opsS cal 191 0 12 73), (73, e_iload 2 74), (74, e_aload 0 75), (75, e_getI opsS 12 11 78), (78, e_cne 93 81), (81, e_aload 0 82), (82, e_iload 1 83), (83, e_iconst (1) 84), (84, e_bin aAdd 85), (85, e_iconst (0) 86), (86, e_iload 3 87), (87, e_lload 4 89), (89, e_callV opsS cal 207 4 12 92), (92, e_vret), (93, e_aload 0 94), (94, e_getR opsS 12 36 97), (97, e_iload 2 98), (98, e_ald opsS 100 99), (99, e_ifne 120 102), (102, e_aload 0 103), (103, e_iload 1 104), (104, e_iload 2 105), (105, e_iconst (1) 106), (106, e_bin aAdd 107), (107, e_iload 3 108), (108, e_iconst (1) 109), (109, e_bin aAdd 110), (110, e_lload 4 112), (112, e_lconst (12) 115), (115, e_lbin lMul 116), (116, e_callV opsS cal 207 4 12 119), (119, e_vret), (120, e_aload 0 121), (121, e_iload 2 122), (122, e_iload 1 123), (123, e_callV opsS cal 186 2 12 126), (126, e_istore 6 128), (128, e_aload 0 129), (129, e_iload 3 130), (130, e_callV opsS cal 205 1 12 133), (133, e_iload 6 135), (135, e_ifle 165 138), (138, e_aload 0 139), (139, e_iload 2 140), (140, e_callV opsS cal 193 1 12 143), (143, e_aload 0 144), (144, e_iload 1 145), (145, e_iload 2 146), (146, e_iconst (1) 147), (147, e_bin aAdd 148), (148, e_iload 3 149), (149, e_iconst (1) 150), (150, e_bin aAdd 151), (151, e_lload 4 153), (153, e_iload 6 155), (155, e_i2l 156), (156, e_lbin lMul 157), (157, e_callV opsS cal 207 4 12 160), (160, e_aload 0 161), (161, e_iload 3 162), (162, e_callV opsS cal 206 1 12 165), (165, e_aload 0 166), (166, e_iload 1 167), (167, e_iload 2 168), (168, e_iconst (1) 169), (169, e_bin aAdd 170), (170, e_iload 3 171), (171, e_iconst (1) 172), (172, e_bin aAdd 173), (173, e_lload 4 175), (175, e_iconst (12) 177), (177, e_iload 6 179), (179, e_bin aSub 180), (180, e_i2l 181), (181, e_lbin lMul 182), (182, e_callV opsS cal 207 4 12 185), (185, e_vret)]
set_option maxRecDepth 100000 in
set_option maxHeartbeats 4000000 in
theorem tk_X12_goThrough {ad0 : Nat → Nat} {G : Gm} {A : Nat → Prop} {p : Program} {l : Launch} {e : Env} {R : Room} {s0 : State} {m : MethodId} {args : Array Value} {below : List Frame} {meth : Method} {c : Code} {Q : State → Prop} {ρ : Type} {ret : Option Value → SS → Option ρ} {r : ρ} (X : Cx G A RX12 cX12_goThrough 7 p s0 m args c) {D' : Nat} {cal : Cal SS} (hcal : calOK l G opsS D' cal) (hRm : ∀ k, k ≤ 21 → D' + 1 ≤ R.frames ∧ 8 + (k + 11) + 40 * D' ≤ R.locals) (hret : RetK G A cX12_goThrough 113 6344 ad0 p l e R s0 m args below meth c Q opsS ret r .return_ okV) : ∀ q ∈ tb_X12_goThrough cal, OKi G A 7 113 6344 ad0 p l e R s0 m args below meth c Q opsS ret r q.1 q.2 :=
    okc (ok_lload X (by decide +kernel) rfl) (
    okc (ok_lconst (n := 0) X (by decide +kernel) rfl rfl) (
    okc (ok_lcmp X (by decide +kernel) rfl) (
    okc (ok_ifne (off := 4) X (by decide +kernel) (by decide) rfl) (
    okc (ok_vret hret (by decide +kernel)) (
    okc (ok_iload_n (j := 1) X (by decide +kernel) rfl rfl) (
    okc (ok_aload_n (j := 0) X (by decide +kernel) rfl rfl) (
    okc (ok_getI (ci := 12) (kf := 44) (idx := 312) (C := RX12) (T := TX12) (N := 63) X rfl (by decide) inX12 (by decide) wf_X12_312 (fun _ _ _ => rfl) (by decide +kernel) rfl) (
    okc (ok_cne (off := 52) X (by decide +kernel) (by decide) rfl) (
    okc (ok_aload_n (j := 0) X (by decide +kernel) rfl rfl) (
    okc (ok_aload_n (j := 0) X (by decide +kernel) rfl rfl) (
    okc (ok_getR (ci := 12) (kf := 36) (idx := 78) (C := RX12) (T := TX12) (N := 63) X rfl (by decide) inX12 (by decide) wf_X12_78 (fun _ _ _ => rfl) (by decide +kernel) rfl) (
    okc (ok_callV (ci := 12) (C := RX12) (T := TX12) (N := 63) (Y := (yX12_firstOf, cX12_firstOf, 3, (some .int))) X hcal opsS_n md_X12_firstOf rfl (by decide) rfl wc_X12_firstOf wl_X12_298 wi_X12 wm_X12_firstOf wv_X12_firstOf (by decide +kernel) (hRm 3 (by decide)) (by decide +kernel) rfl) (
    okc (ok_aload_n (j := 0) X (by decide +kernel) rfl rfl) (
    okc (ok_getI (ci := 12) (kf := 45) (idx := 315) (C := RX12) (T := TX12) (N := 63) X rfl (by decide) inX12 (by decide) wf_X12_315 (fun _ _ _ => rfl) (by decide +kernel) rfl) (
    okc (ok_cne (off := 14) X (by decide +kernel) (by decide) rfl) (
    okc (ok_aload_n (j := 0) X (by decide +kernel) rfl rfl) (
    okc (ok_dup X (by decide +kernel) rfl) (
    okc (ok_getL (ci := 12) (kf := 46) (idx := 318) (C := RX12) (T := TX12) (N := 63) X rfl (by decide) inX12 (by decide) wf_X12_318 (fun _ _ _ => rfl) (by decide +kernel) rfl) (
    okc (ok_lload X (by decide +kernel) rfl) (
    okc (ok_ladd X (by decide +kernel) rfl) (
    okc (ok_putL (ci := 12) (kf := 46) (idx := 318) (C := RX12) (T := TX12) (N := 63) X opsS_ok rfl (by decide) inX12 tyX12_ok nmX12 (by decide) wf_X12_318 rfl (fun _ _ _ => rfl) (by decide +kernel) (by decide +kernel) rfl) (
    okc (ok_aload_n (j := 0) X (by decide +kernel) rfl rfl) (
    okc (ok_dup X (by decide +kernel) rfl) (
    okc (ok_getL (ci := 12) (kf := 47) (idx := 322) (C := RX12) (T := TX12) (N := 63) X rfl (by decide) inX12 (by decide) wf_X12_322 (fun _ _ _ => rfl) (by decide +kernel) rfl) (
    okc (ok_lload X (by decide +kernel) rfl) (
    okc (ok_aload_n (j := 0) X (by decide +kernel) rfl rfl) (
    okc (ok_getR (ci := 12) (kf := 36) (idx := 78) (C := RX12) (T := TX12) (N := 63) X rfl (by decide) inX12 (by decide) wf_X12_78 (fun _ _ _ => rfl) (by decide +kernel) rfl) (
    okc (ok_aload_n (j := 0) X (by decide +kernel) rfl rfl) (
    okc (ok_getI (ci := 12) (kf := 45) (idx := 315) (C := RX12) (T := TX12) (N := 63) X rfl (by decide) inX12 (by decide) wf_X12_315 (fun _ _ _ => rfl) (by decide +kernel) rfl) (
    okc (ok_iald X (by decide +kernel) rfl) (
    okc (ok_i2l X (by decide +kernel) rfl) (
    okc (ok_lmul X (by decide +kernel) rfl) (
    okc (ok_ladd X (by decide +kernel) rfl) (
    okc (ok_putL (ci := 12) (kf := 47) (idx := 322) (C := RX12) (T := TX12) (N := 63) X opsS_ok rfl (by decide) inX12 tyX12_ok nmX12 (by decide) wf_X12_322 rfl (fun _ _ _ => rfl) (by decide +kernel) (by decide +kernel) rfl) (
    okc (ok_vret hret (by decide +kernel)) (
    okc (ok_iload_n (j := 2) X (by decide +kernel) rfl rfl) (
    okc (ok_ifne (off := 7) X (by decide +kernel) (by decide) rfl) (
    okc (ok_aload_n (j := 0) X (by decide +kernel) rfl rfl) (
    okc (ok_callV (ci := 12) (C := RX12) (T := TX12) (N := 63) (Y := (yX12_takeUp, cX12_takeUp, 2, none)) X hcal opsS_n md_X12_takeUp rfl (by decide) rfl wc_X12_takeUp wl_X12_284 wi_X12 wm_X12_takeUp wv_X12_takeUp (by decide +kernel) (hRm 2 (by decide)) (by decide +kernel) rfl) (
    okc (ok_iload_n (j := 2) X (by decide +kernel) rfl rfl) (
    okc (ok_aload_n (j := 0) X (by decide +kernel) rfl rfl) (
    okc (ok_getI (ci := 12) (kf := 11) (idx := 138) (C := RX12) (T := TX12) (N := 63) X rfl (by decide) inX12 (by decide) wf_X12_138 (fun _ _ _ => rfl) (by decide +kernel) rfl) (
    okc (ok_cne (off := 15) X (by decide +kernel) (by decide) rfl) (
    okc (ok_aload_n (j := 0) X (by decide +kernel) rfl rfl) (
    okc (ok_iload_n (j := 1) X (by decide +kernel) rfl rfl) (
    okc (ok_iconst (n := 1) X (by decide +kernel) rfl rfl) (
    okc (ok_iadd X (by decide +kernel) rfl) (
    okc (ok_iconst (n := 0) X (by decide +kernel) rfl rfl) (
    okc (ok_iload_n (j := 3) X (by decide +kernel) rfl rfl) (
    okc (ok_lload X (by decide +kernel) rfl) (
    okc (ok_callV (ci := 12) (C := RX12) (T := TX12) (N := 63) (Y := (yX12_goThrough, cX12_goThrough, 7, none)) X hcal opsS_n md_X12_goThrough rfl (by decide) rfl wc_X12_goThrough wl_X12_325 wi_X12 wm_X12_goThrough wv_X12_goThrough (by decide +kernel) (hRm 7 (by decide)) (by decide +kernel) rfl) (
    okc (ok_vret hret (by decide +kernel)) (
    okc (ok_aload_n (j := 0) X (by decide +kernel) rfl rfl) (
    okc (ok_getR (ci := 12) (kf := 36) (idx := 78) (C := RX12) (T := TX12) (N := 63) X rfl (by decide) inX12 (by decide) wf_X12_78 (fun _ _ _ => rfl) (by decide +kernel) rfl) (
    okc (ok_iload_n (j := 2) X (by decide +kernel) rfl rfl) (
    okc (ok_iald X (by decide +kernel) rfl) (
    okc (ok_ifne (off := 21) X (by decide +kernel) (by decide) rfl) (
    okc (ok_aload_n (j := 0) X (by decide +kernel) rfl rfl) (
    okc (ok_iload_n (j := 1) X (by decide +kernel) rfl rfl) (
    okc (ok_iload_n (j := 2) X (by decide +kernel) rfl rfl) (
    okc (ok_iconst (n := 1) X (by decide +kernel) rfl rfl) (
    okc (ok_iadd X (by decide +kernel) rfl) (
    okc (ok_iload_n (j := 3) X (by decide +kernel) rfl rfl) (
    okc (ok_iconst (n := 1) X (by decide +kernel) rfl rfl) (
    okc (ok_iadd X (by decide +kernel) rfl) (
    okc (ok_lload X (by decide +kernel) rfl) (
    okc (ok_ldc2 (i := 329) X (by decide +kernel) wk_X12_329 rfl) (
    okc (ok_lmul X (by decide +kernel) rfl) (
    okc (ok_callV (ci := 12) (C := RX12) (T := TX12) (N := 63) (Y := (yX12_goThrough, cX12_goThrough, 7, none)) X hcal opsS_n md_X12_goThrough rfl (by decide) rfl wc_X12_goThrough wl_X12_325 wi_X12 wm_X12_goThrough wv_X12_goThrough (by decide +kernel) (hRm 7 (by decide)) (by decide +kernel) rfl) (
    okc (ok_vret hret (by decide +kernel)) (
    okc (ok_aload_n (j := 0) X (by decide +kernel) rfl rfl) (
    okc (ok_iload_n (j := 2) X (by decide +kernel) rfl rfl) (
    okc (ok_iload_n (j := 1) X (by decide +kernel) rfl rfl) (
    okc (ok_callV (ci := 12) (C := RX12) (T := TX12) (N := 63) (Y := (yX12_falls, cX12_falls, 3, (some .int))) X hcal opsS_n md_X12_falls rfl (by decide) rfl wc_X12_falls wl_X12_278 wi_X12 wm_X12_falls wv_X12_falls (by decide +kernel) (hRm 3 (by decide)) (by decide +kernel) rfl) (
    okc (ok_istore X (by decide +kernel) rfl) (
    okc (ok_aload_n (j := 0) X (by decide +kernel) rfl rfl) (
    okc (ok_iload_n (j := 3) X (by decide +kernel) rfl rfl) (
    okc (ok_callV (ci := 12) (C := RX12) (T := TX12) (N := 63) (Y := (yX12_keepThen, cX12_keepThen, 3, none)) X hcal opsS_n md_X12_keepThen rfl (by decide) rfl wc_X12_keepThen wl_X12_331 wi_X12 wm_X12_keepThen wv_X12_keepThen (by decide +kernel) (hRm 3 (by decide)) (by decide +kernel) rfl) (
    okc (ok_iload X (by decide +kernel) rfl) (
    okc (ok_ifle (off := 30) X (by decide +kernel) (by decide) rfl) (
    okc (ok_aload_n (j := 0) X (by decide +kernel) rfl rfl) (
    okc (ok_iload_n (j := 2) X (by decide +kernel) rfl rfl) (
    okc (ok_callV (ci := 12) (C := RX12) (T := TX12) (N := 63) (Y := (yX12_fall, cX12_fall, 4, none)) X hcal opsS_n md_X12_fall rfl (by decide) rfl wc_X12_fall wl_X12_291 wi_X12 wm_X12_fall wv_X12_fall (by decide +kernel) (hRm 4 (by decide)) (by decide +kernel) rfl) (
    okc (ok_aload_n (j := 0) X (by decide +kernel) rfl rfl) (
    okc (ok_iload_n (j := 1) X (by decide +kernel) rfl rfl) (
    okc (ok_iload_n (j := 2) X (by decide +kernel) rfl rfl) (
    okc (ok_iconst (n := 1) X (by decide +kernel) rfl rfl) (
    okc (ok_iadd X (by decide +kernel) rfl) (
    okc (ok_iload_n (j := 3) X (by decide +kernel) rfl rfl) (
    okc (ok_iconst (n := 1) X (by decide +kernel) rfl rfl) (
    okc (ok_iadd X (by decide +kernel) rfl) (
    okc (ok_lload X (by decide +kernel) rfl) (
    okc (ok_iload X (by decide +kernel) rfl) (
    okc (ok_i2l X (by decide +kernel) rfl) (
    okc (ok_lmul X (by decide +kernel) rfl) (
    okc (ok_callV (ci := 12) (C := RX12) (T := TX12) (N := 63) (Y := (yX12_goThrough, cX12_goThrough, 7, none)) X hcal opsS_n md_X12_goThrough rfl (by decide) rfl wc_X12_goThrough wl_X12_325 wi_X12 wm_X12_goThrough wv_X12_goThrough (by decide +kernel) (hRm 7 (by decide)) (by decide +kernel) rfl) (
    okc (ok_aload_n (j := 0) X (by decide +kernel) rfl rfl) (
    okc (ok_iload_n (j := 3) X (by decide +kernel) rfl rfl) (
    okc (ok_callV (ci := 12) (C := RX12) (T := TX12) (N := 63) (Y := (yX12_layBack, cX12_layBack, 3, none)) X hcal opsS_n md_X12_layBack rfl (by decide) rfl wc_X12_layBack wl_X12_334 wi_X12 wm_X12_layBack wv_X12_layBack (by decide +kernel) (hRm 3 (by decide)) (by decide +kernel) rfl) (
    okc (ok_aload_n (j := 0) X (by decide +kernel) rfl rfl) (
    okc (ok_iload_n (j := 1) X (by decide +kernel) rfl rfl) (
    okc (ok_iload_n (j := 2) X (by decide +kernel) rfl rfl) (
    okc (ok_iconst (n := 1) X (by decide +kernel) rfl rfl) (
    okc (ok_iadd X (by decide +kernel) rfl) (
    okc (ok_iload_n (j := 3) X (by decide +kernel) rfl rfl) (
    okc (ok_iconst (n := 1) X (by decide +kernel) rfl rfl) (
    okc (ok_iadd X (by decide +kernel) rfl) (
    okc (ok_lload X (by decide +kernel) rfl) (
    okc (ok_bipush (n := 12) X (by decide +kernel) rfl rfl) (
    okc (ok_iload X (by decide +kernel) rfl) (
    okc (ok_isub X (by decide +kernel) rfl) (
    okc (ok_i2l X (by decide +kernel) rfl) (
    okc (ok_lmul X (by decide +kernel) rfl) (
    okc (ok_callV (ci := 12) (C := RX12) (T := TX12) (N := 63) (Y := (yX12_goThrough, cX12_goThrough, 7, none)) X hcal opsS_n md_X12_goThrough rfl (by decide) rfl wc_X12_goThrough wl_X12_325 wi_X12 wm_X12_goThrough wv_X12_goThrough (by decide +kernel) (hRm 7 (by decide)) (by decide +kernel) rfl) (
    okc (ok_vret hret (by decide +kernel)) (
    okn))))))))))))))))))))))))))))))))))))))))))))))))))))))))))))))))))))))))))))))))))))))))))))))))))))))))))))))))))))
noncomputable def es_X12_goThrough (rc : Nat → Int32 → Int32 → Int32 → Int64 → SS → Option SS) : List (Nat × En) := [(189, en_X12_firstOf), (191, en_X12_takeUp), (207, en_X12_goThrough rc), (186, en_X12_falls), (205, en_X12_keepThen), (193, en_X12_fall), (206, en_X12_layBack)]
set_option maxRecDepth 100000 in
set_option maxHeartbeats 4000000 in
theorem eq_X12_goThrough (rc : Nat → Int32 → Int32 → Int32 → Int64 → SS → Option SS)  (a0 : Int32) (a1 : Int32) (a2 : Int32) (a3 : Int64) (s : SS) : ex (tb_X12_goThrough (calE (es_X12_goThrough rc))) rV [] (fun _ _ _ _ => none) 118 0 [some (.ref 74), some (.int a0), some (.int a1), some (.int a2), some (.long a3), none, none] [] s = f_X12_goThrough rc a0 a1 a2 a3 s := by
  rfl
set_option maxRecDepth 100000 in
set_option maxHeartbeats 4000000 in
theorem run_X12_goThrough {l : Launch} {G : Gm} {rc : Nat → Int32 → Int32 → Int32 → Int64 → SS → Option SS}  (a0 : Int32) (a1 : Int32) (a2 : Int32) (a3 : Int64) (s : SS) (q : SS) (h : f_X12_goThrough rc a0 a1 a2 a3 s = some q) (D' : Nat) (hD : 5 ≤ D') (hrc : rc_X12G l G D' rc) : RunsM l G (D' + 1) (md 207) (embS s) [.ref 74, .int a0, .int a1, .int a2, .long a3] none (embS q) := by
  rw [md_X12_goThrough]
  refine runs_V (plainFor_of_name (by decide +kernel)) (Nat.le_of_ble_eq_true rfl) rfl ?_
  intro A p e R s0 m args below meth c Q ad0 hR X hret
  have X : Cx G A RX12 cX12_goThrough 7 p s0 m args c := X
  have hT := tk_X12_goThrough X (calE_ok (es := es_X12_goThrough rc) (enc (en_X12_firstOf_ok _ (by omega)) (enc (en_X12_takeUp_ok _ (by omega)) (enc (en_X12_goThrough_ok hrc) (enc (en_X12_falls_ok _ (by omega)) (enc (en_X12_keepThen_ok _ (by omega)) (enc (en_X12_fall_ok _ (by omega)) (enc (en_X12_layBack_ok _ (by omega)) (enn))))))))) (rmD rfl hR) hret
  rw [← eq_X12_goThrough rc  a0 a1 a2 a3 s] at h
  refine ex_good hT (fun pc' ls' st' x' hh => ?_) 118 0 _ [] s h
  cases hh


set_option maxRecDepth 100000 in
set_option maxHeartbeats 4000000 in
theorem g_X12G_ok {l : Launch} {G : Gm} : ∀ (n D : Nat), 6 + n ≤ D → rc_X12G l G D (g_X12G n) := by
  intro n
  induction n with
  | zero =>
    intro D hD
    exact fun a0 a1 a2 a3 s q h => absurd (show (none : Option SS) = some q from h) (by simp)
  | succ n ih =>
    intro D hD
    obtain ⟨D', rfl⟩ : ∃ D', D = D' + 1 := ⟨D - 1, by omega⟩
    have hrc := ih D' (by omega)
    exact fun a0 a1 a2 a3 s q h => run_X12_goThrough (rc := g_X12G n) a0 a1 a2 a3 s q h D' (by omega) hrc
/-! HatRankModel findChance -/
noncomputable def tb_X12_findChance (cal : Cal SS) : List (Nat × Ins SS) := [(0, e_aload 0 1), (1, e_callV opsS cal 185 0 12 4), (4, e_aload 0 5), (5, e_getR opsS 12 37 8), (8, e_iload 1 9), (9, e_iload 3 10), (10, e_ast opsS 100 (fun v => v) 11), (11, e_aload 0 12), (12, e_aload 0 13), (13, e_getI opsS 12 1 16), (16, e_iload 2 17), (17, e_bin aAdd 18), (18, e_putI opsS 12 44 21), (21, e_aload 0 22), (22, e_iload 1 23), (23, e_putI opsS 12 45 26), (26, e_aload 0 27), (27, e_lconst (0) 28), (28, e_putL opsS 12 46 31), (31, e_aload 0 32), (32, e_lconst (0) 33), (33, e_putL opsS 12 47 36), (36, e_aload 0 37), (37, e_aload 0 38), (38, e_getI opsS 12 1 41), (41, e_iconst (0) 42), (42, e_iconst (0) 43), (43, e_lconst (1) 44), (44, e_callV opsS cal 207 4 12 47), (47, e_vret)]
set_option maxRecDepth 100000 in
set_option maxHeartbeats 4000000 in
theorem tk_X12_findChance {ad0 : Nat → Nat} {G : Gm} {A : Nat → Prop} {p : Program} {l : Launch} {e : Env} {R : Room} {s0 : State} {m : MethodId} {args : Array Value} {below : List Frame} {meth : Method} {c : Code} {Q : State → Prop} {ρ : Type} {ret : Option Value → SS → Option ρ} {r : ρ} (X : Cx G A RX12 cX12_findChance 4 p s0 m args c) {D' : Nat} {cal : Cal SS} (hcal : calOK l G opsS D' cal) (hRm : ∀ k, k ≤ 21 → D' + 1 ≤ R.frames ∧ 8 + (k + 11) + 40 * D' ≤ R.locals) (hret : RetK G A cX12_findChance 113 6344 ad0 p l e R s0 m args below meth c Q opsS ret r .return_ okV) : ∀ q ∈ tb_X12_findChance cal, OKi G A 4 113 6344 ad0 p l e R s0 m args below meth c Q opsS ret r q.1 q.2 :=
    okc (ok_aload_n (j := 0) X (by decide +kernel) rfl rfl) (
    okc (ok_callV (ci := 12) (C := RX12) (T := TX12) (N := 63) (Y := (yX12_think, cX12_think, 2, none)) X hcal opsS_n md_X12_think rfl (by decide) rfl wc_X12_think wl_X12_275 wi_X12 wm_X12_think wv_X12_think (by decide +kernel) (hRm 2 (by decide)) (by decide +kernel) rfl) (
    okc (ok_aload_n (j := 0) X (by decide +kernel) rfl rfl) (
    okc (ok_getR (ci := 12) (kf := 37) (idx := 81) (C := RX12) (T := TX12) (N := 63) X rfl (by decide) inX12 (by decide) wf_X12_81 (fun _ _ _ => rfl) (by decide +kernel) rfl) (
    okc (ok_iload_n (j := 1) X (by decide +kernel) rfl rfl) (
    okc (ok_iload_n (j := 3) X (by decide +kernel) rfl rfl) (
    okc (ok_iast X opsS_ok (by decide +kernel) rfl) (
    okc (ok_aload_n (j := 0) X (by decide +kernel) rfl rfl) (
    okc (ok_aload_n (j := 0) X (by decide +kernel) rfl rfl) (
    okc (ok_getI (ci := 12) (kf := 1) (idx := 272) (C := RX12) (T := TX12) (N := 63) X rfl (by decide) inX12 (by decide) wf_X12_272 (fun _ _ _ => rfl) (by decide +kernel) rfl) (
    okc (ok_iload_n (j := 2) X (by decide +kernel) rfl rfl) (
    okc (ok_iadd X (by decide +kernel) rfl) (
    okc (ok_putI (ci := 12) (kf := 44) (idx := 312) (C := RX12) (T := TX12) (N := 63) X opsS_ok rfl (by decide) inX12 tyX12_ok nmX12 (by decide) wf_X12_312 rfl (fun _ _ _ => rfl) (by decide +kernel) (by decide +kernel) rfl) (
    okc (ok_aload_n (j := 0) X (by decide +kernel) rfl rfl) (
    okc (ok_iload_n (j := 1) X (by decide +kernel) rfl rfl) (
    okc (ok_putI (ci := 12) (kf := 45) (idx := 315) (C := RX12) (T := TX12) (N := 63) X opsS_ok rfl (by decide) inX12 tyX12_ok nmX12 (by decide) wf_X12_315 rfl (fun _ _ _ => rfl) (by decide +kernel) (by decide +kernel) rfl) (
    okc (ok_aload_n (j := 0) X (by decide +kernel) rfl rfl) (
    okc (ok_lconst (n := 0) X (by decide +kernel) rfl rfl) (
    okc (ok_putL (ci := 12) (kf := 46) (idx := 318) (C := RX12) (T := TX12) (N := 63) X opsS_ok rfl (by decide) inX12 tyX12_ok nmX12 (by decide) wf_X12_318 rfl (fun _ _ _ => rfl) (by decide +kernel) (by decide +kernel) rfl) (
    okc (ok_aload_n (j := 0) X (by decide +kernel) rfl rfl) (
    okc (ok_lconst (n := 0) X (by decide +kernel) rfl rfl) (
    okc (ok_putL (ci := 12) (kf := 47) (idx := 322) (C := RX12) (T := TX12) (N := 63) X opsS_ok rfl (by decide) inX12 tyX12_ok nmX12 (by decide) wf_X12_322 rfl (fun _ _ _ => rfl) (by decide +kernel) (by decide +kernel) rfl) (
    okc (ok_aload_n (j := 0) X (by decide +kernel) rfl rfl) (
    okc (ok_aload_n (j := 0) X (by decide +kernel) rfl rfl) (
    okc (ok_getI (ci := 12) (kf := 1) (idx := 272) (C := RX12) (T := TX12) (N := 63) X rfl (by decide) inX12 (by decide) wf_X12_272 (fun _ _ _ => rfl) (by decide +kernel) rfl) (
    okc (ok_iconst (n := 0) X (by decide +kernel) rfl rfl) (
    okc (ok_iconst (n := 0) X (by decide +kernel) rfl rfl) (
    okc (ok_lconst (n := 1) X (by decide +kernel) rfl rfl) (
    okc (ok_callV (ci := 12) (C := RX12) (T := TX12) (N := 63) (Y := (yX12_goThrough, cX12_goThrough, 7, none)) X hcal opsS_n md_X12_goThrough rfl (by decide) rfl wc_X12_goThrough wl_X12_325 wi_X12 wm_X12_goThrough wv_X12_goThrough (by decide +kernel) (hRm 7 (by decide)) (by decide +kernel) rfl) (
    okc (ok_vret hret (by decide +kernel)) (
    okn))))))))))))))))))))))))))))))
noncomputable def es_X12_findChance  : List (Nat × En) := [(185, en_X12_think), (207, en_X12_goThrough (g_X12G fuelR))]
set_option maxRecDepth 100000 in
set_option maxHeartbeats 4000000 in
theorem eq_X12_findChance   (a0 : Int32) (a1 : Int32) (a2 : Int32) (s : SS) : ex (tb_X12_findChance (calE (es_X12_findChance))) rV [] (fun _ _ _ _ => none) 32 0 [some (.ref 74), some (.int a0), some (.int a1), some (.int a2)] [] s = f_X12_findChance a0 a1 a2 s := by
  rfl
set_option maxRecDepth 100000 in
set_option maxHeartbeats 4000000 in
theorem run_X12_findChance {l : Launch} {G : Gm}   (a0 : Int32) (a1 : Int32) (a2 : Int32) (s : SS) (q : SS) (h : f_X12_findChance a0 a1 a2 s = some q) (D' : Nat) (hD : 106 ≤ D') : RunsM l G (D' + 1) (md 208) (embS s) [.ref 74, .int a0, .int a1, .int a2] none (embS q) := by
  rw [md_X12_findChance]
  refine runs_V (plainFor_of_name (by decide +kernel)) (Nat.le_of_ble_eq_true rfl) rfl ?_
  intro A p e R s0 m args below meth c Q ad0 hR X hret
  have X : Cx G A RX12 cX12_findChance 4 p s0 m args c := X
  have hT := tk_X12_findChance X (calE_ok (es := es_X12_findChance) (enc (en_X12_think_ok _ (by omega)) (enc (en_X12_goThrough_ok (g_X12G_ok _ _ (by rw [fuelR_eq]; omega))) (enn)))) (rmD rfl hR) hret
  rw [← eq_X12_findChance   a0 a1 a2 s] at h
  refine ex_good hT (fun pc' ls' st' x' hh => ?_) 32 0 _ [] s h
  cases hh

noncomputable def en_X12_findChance  : En := fun _ av s k => match av with
  | [.ref r0, .int a0, .int a1, .int a2] => (gd (Nat.beq r0 74) (bV (f_X12_findChance a0 a1 a2 s) k))
  | _ => none
set_option maxRecDepth 100000 in
set_option maxHeartbeats 4000000 in
theorem en_X12_findChance_ok {l : Launch} {G : Gm} (D : Nat) (hD : 107 ≤ D) : enOK l G D 208 en_X12_findChance := by
  intro ρ av x k r h
  unfold en_X12_findChance at h
  split at h
  · obtain ⟨g0, h⟩ := gd_some h
    obtain ⟨q, h1, h2⟩ := bind_of h
    have e0 := beq1 g0
    subst e0
    obtain ⟨D', rfl⟩ : ∃ D', D = D' + 1 := ⟨D - 1, by omega⟩
    exact ⟨_, _, h2, run_X12_findChance  _ _ _ _ _ h1 D' (by omega)⟩
  · cases h

/-! HatRankModel common -/
noncomputable def tb_X12_common (cal : Cal SS) : List (Nat × Ins SS) := [(0, e_lload 0 1), (1, e_lstore 4 3), (3, e_lload 2 4), (4, e_lstore 6 6), (6, e_lload 6 8), (8, e_lconst (0) 9), (9, e_lcmp 10), (10, e_ifeq 31 13), (13, e_lload 4 15), (15, e_lload 6 17), (17, e_ldiv lRem 18), (18, e_lstore 8 20), (20, e_lload 6 22), (22, e_lstore 4 24), (24, e_lload 8 26), (26, e_lstore 6 28), (28, e_goto 6), (31, e_lload 4 33), (33, e_lret)]
set_option maxRecDepth 100000 in
set_option maxHeartbeats 4000000 in
theorem tk_X12_common {ad0 : Nat → Nat} {G : Gm} {A : Nat → Prop} {p : Program} {l : Launch} {e : Env} {R : Room} {s0 : State} {m : MethodId} {args : Array Value} {below : List Frame} {meth : Method} {c : Code} {Q : State → Prop} {ρ : Type} {ret : Option Value → SS → Option ρ} {r : ρ} (X : Cx G A RX12 cX12_common 10 p s0 m args c) {D' : Nat} {cal : Cal SS} (hcal : calOK l G opsS D' cal) (hRm : ∀ k, k ≤ 21 → D' + 1 ≤ R.frames ∧ 8 + (k + 11) + 40 * D' ≤ R.locals) (hret : RetK G A cX12_common 113 6344 ad0 p l e R s0 m args below meth c Q opsS ret r .lreturn okL) : ∀ q ∈ tb_X12_common cal, OKi G A 10 113 6344 ad0 p l e R s0 m args below meth c Q opsS ret r q.1 q.2 :=
    okc (ok_lload_n (j := 0) X (by decide +kernel) rfl rfl) (
    okc (ok_lstore X (by decide +kernel) rfl) (
    okc (ok_lload_n (j := 2) X (by decide +kernel) rfl rfl) (
    okc (ok_lstore X (by decide +kernel) rfl) (
    okc (ok_lload X (by decide +kernel) rfl) (
    okc (ok_lconst (n := 0) X (by decide +kernel) rfl rfl) (
    okc (ok_lcmp X (by decide +kernel) rfl) (
    okc (ok_ifeq (off := 21) X (by decide +kernel) (by decide) rfl) (
    okc (ok_lload X (by decide +kernel) rfl) (
    okc (ok_lload X (by decide +kernel) rfl) (
    okc (ok_lrem X (by decide +kernel) rfl) (
    okc (ok_lstore X (by decide +kernel) rfl) (
    okc (ok_lload X (by decide +kernel) rfl) (
    okc (ok_lstore X (by decide +kernel) rfl) (
    okc (ok_lload X (by decide +kernel) rfl) (
    okc (ok_lstore X (by decide +kernel) rfl) (
    okc (ok_goto (off := -22) X (by decide +kernel) (by decide)) (
    okc (ok_lload X (by decide +kernel) rfl) (
    okc (ok_lret hret (by decide +kernel)) (
    okn)))))))))))))))))))
noncomputable def es_X12_common  : List (Nat × En) := []
noncomputable def ka_X12_common_6   (n : Nat) : Kn SS (Int64 × SS) := fun pc ls st s => bif Nat.beq pc 6 then (match ls, st with
    | [_, _, _, _, some (.long x4), _, some (.long x6), _, _, _], [] => (F_X12_common_6 n x4 x6 s)
    | _, _ => none) else (none)
set_option maxRecDepth 100000 in
set_option maxHeartbeats 4000000 in
theorem eq_X12_common_6    (n : Nat) (x4 : Int64) (x6 : Int64) (s : SS) : ex (tb_X12_common (calE (es_X12_common))) rL [6] (ka_X12_common_6   n) 21 6 [none, none, none, none, some (.long x4), none, some (.long x6), none, none, none] [] s = F_X12_common_6   (n + 1) x4 x6 s := by
  rfl
set_option maxRecDepth 100000 in
set_option maxHeartbeats 4000000 in
theorem gd_X12_common_6 {ad0 : Nat → Nat} {G : Gm} {A : Nat → Prop} {p : Program} {l : Launch} {e : Env} {R : Room} {s0 : State} {m : MethodId} {args : Array Value} {below : List Frame} {meth : Method} {c : Code} {Q : State → Prop} {r : (Int64 × SS)}   (hT : ∀ q ∈ tb_X12_common (calE (es_X12_common)), OKi G A 10 113 6344 ad0 p l e R s0 m args below meth c Q opsS rL r q.1 q.2)   : ∀ (n : Nat) (x4 : Int64) (x6 : Int64) (s : SS), F_X12_common_6   n x4 x6 s = some r → Gd G A 10 113 6344 ad0 p l e R s0 m args below meth c Q opsS 6 [none, none, none, none, some (.long x4), none, some (.long x6), none, none, none] [] s := by
  intro n
  induction n with
  | zero =>
    intro x4 x6 s hh
    exact absurd (show (none : Option (Int64 × SS)) = some r from hh) (by simp)
  | succ n ih =>
    intro x4 x6 s hh
    rw [← eq_X12_common_6    n x4 x6 s] at hh
    refine ex_good hT (fun pc' ls' st' x' hh => ?_) 21 6 _ [] s hh
    unfold ka_X12_common_6 at hh
    cases hb : Nat.beq pc' 6 with
    | true =>
      rw [hb] at hh
      have e9 := beq1 hb
      subst e9
      simp only [cond_true] at hh
      split at hh
      · exact Gd.wk (ih _ _ _ hh) (Lle.no (Lle.no (Lle.no (Lle.no (Lle.eq (Lle.no (Lle.eq (Lle.no (Lle.no (Lle.no Lle.nil))))))))))
      · cases hh
    | false =>
      rw [hb] at hh
      simp only [cond_false] at hh
      cases hh

noncomputable def ka_X12_common  : Kn SS (Int64 × SS) := fun pc ls st s => bif Nat.beq pc 6 then (match ls, st with
    | [_, _, _, _, some (.long x4), _, some (.long x6), _, _, _], [] => (F_X12_common_6 fuel0 x4 x6 s)
    | _, _ => none) else (none)
set_option maxRecDepth 100000 in
set_option maxHeartbeats 4000000 in
theorem eq_X12_common   (a0 : Int64) (a1 : Int64) (s : SS) : ex (tb_X12_common (calE (es_X12_common))) rL [6] (ka_X12_common ) 21 0 [some (.long a0), none, some (.long a1), none, none, none, none, none, none, none] [] s = f_X12_common a0 a1 s := by
  rfl
set_option maxRecDepth 100000 in
set_option maxHeartbeats 4000000 in
theorem run_X12_common {l : Launch} {G : Gm}   (a0 : Int64) (a1 : Int64) (s : SS) (q : (Int64 × SS)) (h : f_X12_common a0 a1 s = some q) (D' : Nat) (hD : 0 ≤ D') : RunsM l G (D' + 1) (md 209) (embS s) [.long a0, .long a1] (some (.long q.1)) (embS q.2) := by
  rw [md_X12_common]
  refine runs_L (plainFor_of_name (by decide +kernel)) (Nat.le_of_ble_eq_true rfl) rfl ?_
  intro A p e R s0 m args below meth c Q ad0 hR X hret
  have X : Cx G A RX12 cX12_common 10 p s0 m args c := X
  have hT := tk_X12_common X (calE_ok (es := es_X12_common) (enn)) (rmD rfl hR) hret
  rw [← eq_X12_common   a0 a1 s] at h
  refine ex_good hT (fun pc' ls' st' x' hh => ?_) 21 0 _ [] s h
  unfold ka_X12_common at hh
  cases hb : Nat.beq pc' 6 with
  | true =>
    rw [hb] at hh
    have e9 := beq1 hb
    subst e9
    simp only [cond_true] at hh
    split at hh
    · exact Gd.wk (gd_X12_common_6 hT  _ _ _ _ hh) (Lle.no (Lle.no (Lle.no (Lle.no (Lle.eq (Lle.no (Lle.eq (Lle.no (Lle.no (Lle.no Lle.nil))))))))))
    · cases hh
  | false =>
    rw [hb] at hh
    simp only [cond_false] at hh
    cases hh

noncomputable def en_X12_common  : En := fun _ av s k => match av with
  | [.long a0, .long a1] => (bL (f_X12_common a0 a1 s) k)
  | _ => none
set_option maxRecDepth 100000 in
set_option maxHeartbeats 4000000 in
theorem en_X12_common_ok {l : Launch} {G : Gm} (D : Nat) (hD : 1 ≤ D) : enOK l G D 209 en_X12_common := by
  intro ρ av x k r h
  unfold en_X12_common at h
  split at h
  · obtain ⟨q, h1, h2⟩ := bind_of h
    obtain ⟨D', rfl⟩ : ∃ D', D = D' + 1 := ⟨D - 1, by omega⟩
    exact ⟨_, _, h2, run_X12_common  _ _ _ _ h1 D' (by omega)⟩
  · cases h

/-! HatRankModel below -/
noncomputable def tb_X12_below (cal : Cal SS) : List (Nat × Ins SS) := [(0, e_lconst (1) 1), (1, e_lstore 2 2), (2, e_iconst (0) 3), (3, e_istore 4 5), (5, e_iload 4 7), (7, e_iload 1 8), (8, e_aload 0 9), (9, e_getI opsS 12 11 12), (12, e_bin aMul 13), (13, e_cge 28 16), (16, e_lload 2 17), (17, e_lconst (12) 20), (20, e_lbin lMul 21), (21, e_lstore 2 22), (22, e_iinc 4 (1) 25), (25, e_goto 5), (28, e_lload 2 29), (29, e_lret)]
set_option maxRecDepth 100000 in
set_option maxHeartbeats 4000000 in
theorem tk_X12_below {ad0 : Nat → Nat} {G : Gm} {A : Nat → Prop} {p : Program} {l : Launch} {e : Env} {R : Room} {s0 : State} {m : MethodId} {args : Array Value} {below : List Frame} {meth : Method} {c : Code} {Q : State → Prop} {ρ : Type} {ret : Option Value → SS → Option ρ} {r : ρ} (X : Cx G A RX12 cX12_below 5 p s0 m args c) {D' : Nat} {cal : Cal SS} (hcal : calOK l G opsS D' cal) (hRm : ∀ k, k ≤ 21 → D' + 1 ≤ R.frames ∧ 8 + (k + 11) + 40 * D' ≤ R.locals) (hret : RetK G A cX12_below 113 6344 ad0 p l e R s0 m args below meth c Q opsS ret r .lreturn okL) : ∀ q ∈ tb_X12_below cal, OKi G A 5 113 6344 ad0 p l e R s0 m args below meth c Q opsS ret r q.1 q.2 :=
    okc (ok_lconst (n := 1) X (by decide +kernel) rfl rfl) (
    okc (ok_lstore_n (j := 2) X (by decide +kernel) rfl rfl) (
    okc (ok_iconst (n := 0) X (by decide +kernel) rfl rfl) (
    okc (ok_istore X (by decide +kernel) rfl) (
    okc (ok_iload X (by decide +kernel) rfl) (
    okc (ok_iload_n (j := 1) X (by decide +kernel) rfl rfl) (
    okc (ok_aload_n (j := 0) X (by decide +kernel) rfl rfl) (
    okc (ok_getI (ci := 12) (kf := 11) (idx := 138) (C := RX12) (T := TX12) (N := 63) X rfl (by decide) inX12 (by decide) wf_X12_138 (fun _ _ _ => rfl) (by decide +kernel) rfl) (
    okc (ok_imul X (by decide +kernel) rfl) (
    okc (ok_cge (off := 15) X (by decide +kernel) (by decide) rfl) (
    okc (ok_lload_n (j := 2) X (by decide +kernel) rfl rfl) (
    okc (ok_ldc2 (i := 329) X (by decide +kernel) wk_X12_329 rfl) (
    okc (ok_lmul X (by decide +kernel) rfl) (
    okc (ok_lstore_n (j := 2) X (by decide +kernel) rfl rfl) (
    okc (ok_iinc (n := 1) X (by decide +kernel) rfl rfl) (
    okc (ok_goto (off := -20) X (by decide +kernel) (by decide)) (
    okc (ok_lload_n (j := 2) X (by decide +kernel) rfl rfl) (
    okc (ok_lret hret (by decide +kernel)) (
    okn))))))))))))))))))
noncomputable def es_X12_below  : List (Nat × En) := []
noncomputable def ka_X12_below_5   (n : Nat) : Kn SS (Int64 × SS) := fun pc ls st s => bif Nat.beq pc 5 then (match ls, st with
    | [some y0, some (.int x1), some (.long x2), _, some (.int x4)], [] => (gd (veq y0 (.ref 74)) (F_X12_below_5 n x1 x2 x4 s))
    | _, _ => none) else (none)
set_option maxRecDepth 100000 in
set_option maxHeartbeats 4000000 in
theorem eq_X12_below_5    (n : Nat) (x1 : Int32) (x2 : Int64) (x4 : Int32) (s : SS) : ex (tb_X12_below (calE (es_X12_below))) rL [5] (ka_X12_below_5   n) 20 5 [some (.ref 74), some (.int x1), some (.long x2), none, some (.int x4)] [] s = F_X12_below_5   (n + 1) x1 x2 x4 s := by
  rfl
set_option maxRecDepth 100000 in
set_option maxHeartbeats 4000000 in
theorem gd_X12_below_5 {ad0 : Nat → Nat} {G : Gm} {A : Nat → Prop} {p : Program} {l : Launch} {e : Env} {R : Room} {s0 : State} {m : MethodId} {args : Array Value} {below : List Frame} {meth : Method} {c : Code} {Q : State → Prop} {r : (Int64 × SS)}   (hT : ∀ q ∈ tb_X12_below (calE (es_X12_below)), OKi G A 5 113 6344 ad0 p l e R s0 m args below meth c Q opsS rL r q.1 q.2)   : ∀ (n : Nat) (x1 : Int32) (x2 : Int64) (x4 : Int32) (s : SS), F_X12_below_5   n x1 x2 x4 s = some r → Gd G A 5 113 6344 ad0 p l e R s0 m args below meth c Q opsS 5 [some (.ref 74), some (.int x1), some (.long x2), none, some (.int x4)] [] s := by
  intro n
  induction n with
  | zero =>
    intro x1 x2 x4 s hh
    exact absurd (show (none : Option (Int64 × SS)) = some r from hh) (by simp)
  | succ n ih =>
    intro x1 x2 x4 s hh
    rw [← eq_X12_below_5    n x1 x2 x4 s] at hh
    refine ex_good hT (fun pc' ls' st' x' hh => ?_) 20 5 _ [] s hh
    unfold ka_X12_below_5 at hh
    cases hb : Nat.beq pc' 5 with
    | true =>
      rw [hb] at hh
      have e9 := beq1 hb
      subst e9
      simp only [cond_true] at hh
      split at hh
      · obtain ⟨g0, hh1⟩ := gd_some hh
        have e0 := veq_of g0
        subst e0
        exact Gd.wk (ih _ _ _ _ hh1) (Lle.eq (Lle.eq (Lle.eq (Lle.no (Lle.eq Lle.nil)))))
      · cases hh
    | false =>
      rw [hb] at hh
      simp only [cond_false] at hh
      cases hh

noncomputable def ka_X12_below  : Kn SS (Int64 × SS) := fun pc ls st s => bif Nat.beq pc 5 then (match ls, st with
    | [some y0, some (.int x1), some (.long x2), _, some (.int x4)], [] => (gd (veq y0 (.ref 74)) (F_X12_below_5 fuel0 x1 x2 x4 s))
    | _, _ => none) else (none)
set_option maxRecDepth 100000 in
set_option maxHeartbeats 4000000 in
theorem eq_X12_below   (a0 : Int32) (s : SS) : ex (tb_X12_below (calE (es_X12_below))) rL [5] (ka_X12_below ) 20 0 [some (.ref 74), some (.int a0), none, none, none] [] s = f_X12_below a0 s := by
  rfl
set_option maxRecDepth 100000 in
set_option maxHeartbeats 4000000 in
theorem run_X12_below {l : Launch} {G : Gm}   (a0 : Int32) (s : SS) (q : (Int64 × SS)) (h : f_X12_below a0 s = some q) (D' : Nat) (hD : 0 ≤ D') : RunsM l G (D' + 1) (md 210) (embS s) [.ref 74, .int a0] (some (.long q.1)) (embS q.2) := by
  rw [md_X12_below]
  refine runs_L (plainFor_of_name (by decide +kernel)) (Nat.le_of_ble_eq_true rfl) rfl ?_
  intro A p e R s0 m args below meth c Q ad0 hR X hret
  have X : Cx G A RX12 cX12_below 5 p s0 m args c := X
  have hT := tk_X12_below X (calE_ok (es := es_X12_below) (enn)) (rmD rfl hR) hret
  rw [← eq_X12_below   a0 s] at h
  refine ex_good hT (fun pc' ls' st' x' hh => ?_) 20 0 _ [] s h
  unfold ka_X12_below at hh
  cases hb : Nat.beq pc' 5 with
  | true =>
    rw [hb] at hh
    have e9 := beq1 hb
    subst e9
    simp only [cond_true] at hh
    split at hh
    · obtain ⟨g0, hh1⟩ := gd_some hh
      have e0 := veq_of g0
      subst e0
      exact Gd.wk (gd_X12_below_5 hT  _ _ _ _ _ hh1) (Lle.eq (Lle.eq (Lle.eq (Lle.no (Lle.eq Lle.nil)))))
    · cases hh
  | false =>
    rw [hb] at hh
    simp only [cond_false] at hh
    cases hh

noncomputable def en_X12_below  : En := fun _ av s k => match av with
  | [.ref r0, .int a0] => (gd (Nat.beq r0 74) (bL (f_X12_below a0 s) k))
  | _ => none
set_option maxRecDepth 100000 in
set_option maxHeartbeats 4000000 in
theorem en_X12_below_ok {l : Launch} {G : Gm} (D : Nat) (hD : 1 ≤ D) : enOK l G D 210 en_X12_below := by
  intro ρ av x k r h
  unfold en_X12_below at h
  split at h
  · obtain ⟨g0, h⟩ := gd_some h
    obtain ⟨q, h1, h2⟩ := bind_of h
    have e0 := beq1 g0
    subst e0
    obtain ⟨D', rfl⟩ : ∃ D', D = D' + 1 := ⟨D - 1, by omega⟩
    exact ⟨_, _, h2, run_X12_below  _ _ _ h1 D' (by omega)⟩
  · cases h

/-! HatRankModel asPart -/
noncomputable def tb_X12_asPart (cal : Cal SS) : List (Nat × Ins SS) := [(0, e_lload 1 1), (1, e_aload 0 2), (2, e_iload 3 3), (3, e_callV opsS cal 210 1 12 6), (6, e_callS cal 209 2 9), (9, e_lstore 5 11), (11, e_iload 4 13), (13, e_ifne 23 16), (16, e_lload 1 17), (17, e_lload 5 19), (19, e_ldiv lDiv 20), (20, e_goto 31), (23, e_aload 0 24), (24, e_iload 3 25), (25, e_callV opsS cal 210 1 12 28), (28, e_lload 5 30), (30, e_ldiv lDiv 31), (31, e_lret)]
set_option maxRecDepth 100000 in
set_option maxHeartbeats 4000000 in
theorem tk_X12_asPart {ad0 : Nat → Nat} {G : Gm} {A : Nat → Prop} {p : Program} {l : Launch} {e : Env} {R : Room} {s0 : State} {m : MethodId} {args : Array Value} {below : List Frame} {meth : Method} {c : Code} {Q : State → Prop} {ρ : Type} {ret : Option Value → SS → Option ρ} {r : ρ} (X : Cx G A RX12 cX12_asPart 7 p s0 m args c) {D' : Nat} {cal : Cal SS} (hcal : calOK l G opsS D' cal) (hRm : ∀ k, k ≤ 21 → D' + 1 ≤ R.frames ∧ 8 + (k + 11) + 40 * D' ≤ R.locals) (hret : RetK G A cX12_asPart 113 6344 ad0 p l e R s0 m args below meth c Q opsS ret r .lreturn okL) : ∀ q ∈ tb_X12_asPart cal, OKi G A 7 113 6344 ad0 p l e R s0 m args below meth c Q opsS ret r q.1 q.2 :=
    okc (ok_lload_n (j := 1) X (by decide +kernel) rfl rfl) (
    okc (ok_aload_n (j := 0) X (by decide +kernel) rfl rfl) (
    okc (ok_iload_n (j := 3) X (by decide +kernel) rfl rfl) (
    okc (ok_callV (ci := 12) (C := RX12) (T := TX12) (N := 63) (Y := (yX12_below, cX12_below, 5, (some .long))) X hcal opsS_n md_X12_below rfl (by decide) rfl wc_X12_below wl_X12_337 wi_X12 wm_X12_below wv_X12_below (by decide +kernel) (hRm 5 (by decide)) (by decide +kernel) rfl) (
    okc (ok_callS (Y := (yX12_common, cX12_common, 10, (some .long))) X hcal opsS_n md_X12_common wc_X12_common wl_X12_341 wi_X12 ws_X12_common (by decide +kernel) (hRm 10 (by decide)) (by decide +kernel) rfl) (
    okc (ok_lstore X (by decide +kernel) rfl) (
    okc (ok_iload X (by decide +kernel) rfl) (
    okc (ok_ifne (off := 10) X (by decide +kernel) (by decide) rfl) (
    okc (ok_lload_n (j := 1) X (by decide +kernel) rfl rfl) (
    okc (ok_lload X (by decide +kernel) rfl) (
    okc (ok_ldiv X (by decide +kernel) rfl) (
    okc (ok_goto (off := 11) X (by decide +kernel) (by decide)) (
    okc (ok_aload_n (j := 0) X (by decide +kernel) rfl rfl) (
    okc (ok_iload_n (j := 3) X (by decide +kernel) rfl rfl) (
    okc (ok_callV (ci := 12) (C := RX12) (T := TX12) (N := 63) (Y := (yX12_below, cX12_below, 5, (some .long))) X hcal opsS_n md_X12_below rfl (by decide) rfl wc_X12_below wl_X12_337 wi_X12 wm_X12_below wv_X12_below (by decide +kernel) (hRm 5 (by decide)) (by decide +kernel) rfl) (
    okc (ok_lload X (by decide +kernel) rfl) (
    okc (ok_ldiv X (by decide +kernel) rfl) (
    okc (ok_lret hret (by decide +kernel)) (
    okn))))))))))))))))))
noncomputable def es_X12_asPart  : List (Nat × En) := [(210, en_X12_below), (209, en_X12_common)]
set_option maxRecDepth 100000 in
set_option maxHeartbeats 4000000 in
theorem eq_X12_asPart   (a0 : Int64) (a1 : Int32) (a2 : Int32) (s : SS) : ex (tb_X12_asPart (calE (es_X12_asPart))) rL [] (fun _ _ _ _ => none) 20 0 [some (.ref 74), some (.long a0), none, some (.int a1), some (.int a2), none, none] [] s = f_X12_asPart a0 a1 a2 s := by
  rfl
set_option maxRecDepth 100000 in
set_option maxHeartbeats 4000000 in
theorem run_X12_asPart {l : Launch} {G : Gm}   (a0 : Int64) (a1 : Int32) (a2 : Int32) (s : SS) (q : (Int64 × SS)) (h : f_X12_asPart a0 a1 a2 s = some q) (D' : Nat) (hD : 1 ≤ D') : RunsM l G (D' + 1) (md 211) (embS s) [.ref 74, .long a0, .int a1, .int a2] (some (.long q.1)) (embS q.2) := by
  rw [md_X12_asPart]
  refine runs_L (plainFor_of_name (by decide +kernel)) (Nat.le_of_ble_eq_true rfl) rfl ?_
  intro A p e R s0 m args below meth c Q ad0 hR X hret
  have X : Cx G A RX12 cX12_asPart 7 p s0 m args c := X
  have hT := tk_X12_asPart X (calE_ok (es := es_X12_asPart) (enc (en_X12_below_ok _ (by omega)) (enc (en_X12_common_ok _ (by omega)) (enn)))) (rmD rfl hR) hret
  rw [← eq_X12_asPart   a0 a1 a2 s] at h
  refine ex_good hT (fun pc' ls' st' x' hh => ?_) 20 0 _ [] s h
  cases hh

noncomputable def en_X12_asPart  : En := fun _ av s k => match av with
  | [.ref r0, .long a0, .int a1, .int a2] => (gd (Nat.beq r0 74) (bL (f_X12_asPart a0 a1 a2 s) k))
  | _ => none
set_option maxRecDepth 100000 in
set_option maxHeartbeats 4000000 in
theorem en_X12_asPart_ok {l : Launch} {G : Gm} (D : Nat) (hD : 2 ≤ D) : enOK l G D 211 en_X12_asPart := by
  intro ρ av x k r h
  unfold en_X12_asPart at h
  split at h
  · obtain ⟨g0, h⟩ := gd_some h
    obtain ⟨q, h1, h2⟩ := bind_of h
    have e0 := beq1 g0
    subst e0
    obtain ⟨D', rfl⟩ : ∃ D', D = D' + 1 := ⟨D - 1, by omega⟩
    exact ⟨_, _, h2, run_X12_asPart  _ _ _ _ _ h1 D' (by omega)⟩
  · cases h

/-! HatRankModel chance -/
noncomputable def tb_X12_chance (cal : Cal SS) : List (Nat × Ins SS) := [(0, e_aload 0 1), (1, e_iload 1 2), (2, e_callV opsS cal 151 1 12 5), (5, e_ifeq 26 8), (8, e_iload 2 9), (9, e_iconst (0) 10), (10, e_iconst (2) 11), (11, e_callS cal 149 3 14), (14, e_ifeq 26 17), (17, e_iload 3 18), (18, e_iconst (0) 19), (19, e_iconst (1) 20), (20, e_callS cal 149 3 23), (23, e_ifne 30 26), (26, e_lconst (-9223372036854775808) 29), (29, e_lret), (30, e_aload 0 31), (31, e_getI opsS 12 1 34), (34, e_iload 2 35), (35, e_bin aAdd 36), (36, e_iconst (24) 38), (38, e_cle 45 41), (41, e_lconst (-5) 44), (44, e_lret), (45, e_aload 0 46), (46, e_iload 1 47), (47, e_iload 2 48), (48, e_aload 0 49), (49, e_getR opsS 12 14 52), (52, e_iload 1 53), (53, e_ald opsS 100 54), (54, e_callV opsS cal 208 3 12 57), (57, e_aload 0 58), (58, e_aload 0 59), (59, e_getL opsS 12 46 62), (62, e_iload 2 63), (63, e_iload 3 64), (64, e_callV opsS cal 211 3 12 67), (67, e_lret)]
set_option maxRecDepth 100000 in
set_option maxHeartbeats 4000000 in
theorem tk_X12_chance {ad0 : Nat → Nat} {G : Gm} {A : Nat → Prop} {p : Program} {l : Launch} {e : Env} {R : Room} {s0 : State} {m : MethodId} {args : Array Value} {below : List Frame} {meth : Method} {c : Code} {Q : State → Prop} {ρ : Type} {ret : Option Value → SS → Option ρ} {r : ρ} (X : Cx G A RX12 cX12_chance 4 p s0 m args c) {D' : Nat} {cal : Cal SS} (hcal : calOK l G opsS D' cal) (hRm : ∀ k, k ≤ 21 → D' + 1 ≤ R.frames ∧ 8 + (k + 11) + 40 * D' ≤ R.locals) (hret : RetK G A cX12_chance 113 6344 ad0 p l e R s0 m args below meth c Q opsS ret r .lreturn okL) : ∀ q ∈ tb_X12_chance cal, OKi G A 4 113 6344 ad0 p l e R s0 m args below meth c Q opsS ret r q.1 q.2 :=
    okc (ok_aload_n (j := 0) X (by decide +kernel) rfl rfl) (
    okc (ok_iload_n (j := 1) X (by decide +kernel) rfl rfl) (
    okc (ok_callV (ci := 12) (C := RX12) (T := TX12) (N := 63) (Y := (yX12_isPerson, cX12_isPerson, 2, (some .boolean))) X hcal opsS_n md_X12_isPerson rfl (by decide) rfl wc_X12_isPerson wl_X12_175 wi_X12 wm_X12_isPerson wv_X12_isPerson (by decide +kernel) (hRm 2 (by decide)) (by decide +kernel) rfl) (
    okc (ok_ifeq (off := 21) X (by decide +kernel) (by decide) rfl) (
    okc (ok_iload_n (j := 2) X (by decide +kernel) rfl rfl) (
    okc (ok_iconst (n := 0) X (by decide +kernel) rfl rfl) (
    okc (ok_iconst (n := 2) X (by decide +kernel) rfl rfl) (
    okc (ok_callS (Y := (yX12_in, cX12_in, 3, (some .boolean))) X hcal opsS_n md_X12_in wc_X12_in wl_X12_134 wi_X12 ws_X12_in (by decide +kernel) (hRm 3 (by decide)) (by decide +kernel) rfl) (
    okc (ok_ifeq (off := 12) X (by decide +kernel) (by decide) rfl) (
    okc (ok_iload_n (j := 3) X (by decide +kernel) rfl rfl) (
    okc (ok_iconst (n := 0) X (by decide +kernel) rfl rfl) (
    okc (ok_iconst (n := 1) X (by decide +kernel) rfl rfl) (
    okc (ok_callS (Y := (yX12_in, cX12_in, 3, (some .boolean))) X hcal opsS_n md_X12_in wc_X12_in wl_X12_134 wi_X12 ws_X12_in (by decide +kernel) (hRm 3 (by decide)) (by decide +kernel) rfl) (
    okc (ok_ifne (off := 7) X (by decide +kernel) (by decide) rfl) (
    okc (ok_ldc2 (i := 347) X (by decide +kernel) wk_X12_347 rfl) (
    okc (ok_lret hret (by decide +kernel)) (
    okc (ok_aload_n (j := 0) X (by decide +kernel) rfl rfl) (
    okc (ok_getI (ci := 12) (kf := 1) (idx := 272) (C := RX12) (T := TX12) (N := 63) X rfl (by decide) inX12 (by decide) wf_X12_272 (fun _ _ _ => rfl) (by decide +kernel) rfl) (
    okc (ok_iload_n (j := 2) X (by decide +kernel) rfl rfl) (
    okc (ok_iadd X (by decide +kernel) rfl) (
    okc (ok_bipush (n := 24) X (by decide +kernel) rfl rfl) (
    okc (ok_cle (off := 7) X (by decide +kernel) (by decide) rfl) (
    okc (ok_ldc2 (i := 349) X (by decide +kernel) wk_X12_349 rfl) (
    okc (ok_lret hret (by decide +kernel)) (
    okc (ok_aload_n (j := 0) X (by decide +kernel) rfl rfl) (
    okc (ok_iload_n (j := 1) X (by decide +kernel) rfl rfl) (
    okc (ok_iload_n (j := 2) X (by decide +kernel) rfl rfl) (
    okc (ok_aload_n (j := 0) X (by decide +kernel) rfl rfl) (
    okc (ok_getR (ci := 12) (kf := 14) (idx := 34) (C := RX12) (T := TX12) (N := 63) X rfl (by decide) inX12 (by decide) wf_X12_34 (fun _ _ _ => rfl) (by decide +kernel) rfl) (
    okc (ok_iload_n (j := 1) X (by decide +kernel) rfl rfl) (
    okc (ok_iald X (by decide +kernel) rfl) (
    okc (ok_callV (ci := 12) (C := RX12) (T := TX12) (N := 63) (Y := (yX12_findChance, cX12_findChance, 4, none)) X hcal opsS_n md_X12_findChance rfl (by decide) rfl wc_X12_findChance wl_X12_351 wi_X12 wm_X12_findChance wv_X12_findChance (by decide +kernel) (hRm 4 (by decide)) (by decide +kernel) rfl) (
    okc (ok_aload_n (j := 0) X (by decide +kernel) rfl rfl) (
    okc (ok_aload_n (j := 0) X (by decide +kernel) rfl rfl) (
    okc (ok_getL (ci := 12) (kf := 46) (idx := 318) (C := RX12) (T := TX12) (N := 63) X rfl (by decide) inX12 (by decide) wf_X12_318 (fun _ _ _ => rfl) (by decide +kernel) rfl) (
    okc (ok_iload_n (j := 2) X (by decide +kernel) rfl rfl) (
    okc (ok_iload_n (j := 3) X (by decide +kernel) rfl rfl) (
    okc (ok_callV (ci := 12) (C := RX12) (T := TX12) (N := 63) (Y := (yX12_asPart, cX12_asPart, 7, (some .long))) X hcal opsS_n md_X12_asPart rfl (by decide) rfl wc_X12_asPart wl_X12_354 wi_X12 wm_X12_asPart wv_X12_asPart (by decide +kernel) (hRm 7 (by decide)) (by decide +kernel) rfl) (
    okc (ok_lret hret (by decide +kernel)) (
    okn)))))))))))))))))))))))))))))))))))))))
noncomputable def es_X12_chance  : List (Nat × En) := [(151, en_X12_isPerson), (149, en_X12_in), (208, en_X12_findChance), (211, en_X12_asPart)]
set_option maxRecDepth 100000 in
set_option maxHeartbeats 4000000 in
theorem eq_X12_chance   (a0 : Int32) (a1 : Int32) (a2 : Int32) (s : SS) : ex (tb_X12_chance (calE (es_X12_chance))) rL [] (fun _ _ _ _ => none) 41 0 [some (.ref 74), some (.int a0), some (.int a1), some (.int a2)] [] s = f_X12_chance a0 a1 a2 s := by
  rfl
set_option maxRecDepth 100000 in
set_option maxHeartbeats 4000000 in
theorem run_X12_chance {l : Launch} {G : Gm}   (a0 : Int32) (a1 : Int32) (a2 : Int32) (s : SS) (q : (Int64 × SS)) (h : f_X12_chance a0 a1 a2 s = some q) (D' : Nat) (hD : 107 ≤ D') : RunsM l G (D' + 1) (md 212) (embS s) [.ref 74, .int a0, .int a1, .int a2] (some (.long q.1)) (embS q.2) := by
  rw [md_X12_chance]
  refine runs_L (plainFor_of_name (by decide +kernel)) (Nat.le_of_ble_eq_true rfl) rfl ?_
  intro A p e R s0 m args below meth c Q ad0 hR X hret
  have X : Cx G A RX12 cX12_chance 4 p s0 m args c := X
  have hT := tk_X12_chance X (calE_ok (es := es_X12_chance) (enc (en_X12_isPerson_ok _ (by omega)) (enc (en_X12_in_ok _ (by omega)) (enc (en_X12_findChance_ok _ (by omega)) (enc (en_X12_asPart_ok _ (by omega)) (enn)))))) (rmD rfl hR) hret
  rw [← eq_X12_chance   a0 a1 a2 s] at h
  refine ex_good hT (fun pc' ls' st' x' hh => ?_) 41 0 _ [] s h
  cases hh

noncomputable def en_X12_chance  : En := fun _ av s k => match av with
  | [.ref r0, .int a0, .int a1, .int a2] => (gd (Nat.beq r0 74) (bL (f_X12_chance a0 a1 a2 s) k))
  | _ => none
set_option maxRecDepth 100000 in
set_option maxHeartbeats 4000000 in
theorem en_X12_chance_ok {l : Launch} {G : Gm} (D : Nat) (hD : 108 ≤ D) : enOK l G D 212 en_X12_chance := by
  intro ρ av x k r h
  unfold en_X12_chance at h
  split at h
  · obtain ⟨g0, h⟩ := gd_some h
    obtain ⟨q, h1, h2⟩ := bind_of h
    have e0 := beq1 g0
    subst e0
    obtain ⟨D', rfl⟩ : ∃ D', D = D' + 1 := ⟨D - 1, by omega⟩
    exact ⟨_, _, h2, run_X12_chance  _ _ _ _ _ h1 D' (by omega)⟩
  · cases h

