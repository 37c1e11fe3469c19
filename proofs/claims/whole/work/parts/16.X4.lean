/-! HatRank$Gauge begin -/
noncomputable def tb_X4_begin (cal : Cal SS) : List (Nat × Ins SS) := [(0, e_aload 0 1), (1, e_iload 1 2), (2, e_putI opsS 4 3 5), (5, e_aload 0 6), (6, e_getR opsS 4 2 9), (9, e_iconst (-1) 10), (10, e_callS cal 266 2 13), (13, e_vret)]
set_option maxRecDepth 100000 in
set_option maxHeartbeats 4000000 in
theorem tk_X4_begin {ad0 : Nat → Nat} {G : Gm} {A : Nat → Prop} {p : Program} {l : Launch} {e : Env} {R : Room} {s0 : State} {m : MethodId} {args : Array Value} {below : List Frame} {meth : Method} {c : Code} {Q : State → Prop} {ρ : Type} {ret : Option Value → SS → Option ρ} {r : ρ} (X : Cx G A RX4 cX4_begin 2 p s0 m args c) {D' : Nat} {cal : Cal SS} (hcal : calOK l G opsS D' cal) (hRm : ∀ k, k ≤ 21 → D' + 1 ≤ R.frames ∧ 8 + (k + 11) + 40 * D' ≤ R.locals) (hret : RetK G A cX4_begin 113 6344 ad0 p l e R s0 m args below meth c Q opsS ret r .return_ okV) : ∀ q ∈ tb_X4_begin cal, OKi G A 2 113 6344 ad0 p l e R s0 m args below meth c Q opsS ret r q.1 q.2 :=
    okc (ok_aload_n (j := 0) X (by decide +kernel) rfl rfl) (
    okc (ok_iload_n (j := 1) X (by decide +kernel) rfl rfl) (
    okc (ok_putI (ci := 4) (kf := 3) (idx := 23) (C := RX4) (T := TX4) (N := 4) X opsS_ok rfl (by decide) inX4 tyX4_ok nmX4 (by decide) wf_X4_23 rfl (fun _ _ _ => rfl) (by decide +kernel) (by decide +kernel) rfl) (
    okc (ok_aload_n (j := 0) X (by decide +kernel) rfl rfl) (
    okc (ok_getR (ci := 4) (kf := 2) (idx := 9) (C := RX4) (T := TX4) (N := 4) X rfl (by decide) inX4 (by decide) wf_X4_9 (fun _ _ _ => rfl) (by decide +kernel) rfl) (
    okc (ok_iconst (n := -1) X (by decide +kernel) rfl rfl) (
    okc (ok_callS (Y := (yJ7_fill_53178, cJ7_fill_53178, 4, none)) X hcal opsS_n md_J7_fill_53178 wc_J7_fill_53178 wl_X4_27 wi_J7 ws_J7_fill_53178 (by decide +kernel) (hRm 4 (by decide)) (by decide +kernel) rfl) (
    okc (ok_vret hret (by decide +kernel)) (
    okn))))))))
noncomputable def es_X4_begin  : List (Nat × En) := [(266, en_J7_fill_53178)]
set_option maxRecDepth 100000 in
set_option maxHeartbeats 4000000 in
theorem eq_X4_begin   (a0 : Int32) (s : SS) : ex (tb_X4_begin (calE (es_X4_begin))) rV [] (fun _ _ _ _ => none) 10 0 [some (.ref 27), some (.int a0)] [] s = f_X4_begin a0 s := by
  rfl
set_option maxRecDepth 100000 in
set_option maxHeartbeats 4000000 in
theorem run_X4_begin {l : Launch} {G : Gm}   (a0 : Int32) (s : SS) (q : SS) (h : f_X4_begin a0 s = some q) (D' : Nat) (hD : 1 ≤ D') : RunsM l G (D' + 1) (md 31) (embS s) [.ref 27, .int a0] none (embS q) := by
  rw [md_X4_begin]
  refine runs_V (plainFor_of_name (by decide +kernel)) (Nat.le_of_ble_eq_true rfl) rfl ?_
  intro A p e R s0 m args below meth c Q ad0 hR X hret
  have X : Cx G A RX4 cX4_begin 2 p s0 m args c := X
  have hT := tk_X4_begin X (calE_ok (es := es_X4_begin) (enc (en_J7_fill_53178_ok _ (by omega)) (enn))) (rmD rfl hR) hret
  rw [← eq_X4_begin   a0 s] at h
  refine ex_good hT (fun pc' ls' st' x' hh => ?_) 10 0 _ [] s h
  cases hh

noncomputable def en_X4_begin  : En := fun _ av s k => match av with
  | [.ref r0, .int a0] => (gd (Nat.beq r0 27) (bV (f_X4_begin a0 s) k))
  | _ => none
set_option maxRecDepth 100000 in
set_option maxHeartbeats 4000000 in
theorem en_X4_begin_ok {l : Launch} {G : Gm} (D : Nat) (hD : 2 ≤ D) : enOK l G D 31 en_X4_begin := by
  intro ρ av x k r h
  unfold en_X4_begin at h
  split at h
  · obtain ⟨g0, h⟩ := gd_some h
    obtain ⟨q, h1, h2⟩ := bind_of h
    have e0 := beq1 g0
    subst e0
    obtain ⟨D', rfl⟩ : ∃ D', D = D' + 1 := ⟨D - 1, by omega⟩
    exact ⟨_, _, h2, run_X4_begin  _ _ _ h1 D' (by omega)⟩
  · cases h

/-! HatRank$Gauge held -/
noncomputable def tb_X4_held (cal : Cal SS) : List (Nat × Ins SS) := [(0, e_iconst (0) 1), (1, e_iconst (12) 3), (3, e_iload 0 4), (4, e_callS cal 268 2 7), (7, e_callS cal 267 2 10), (10, e_iret)]
set_option maxRecDepth 100000 in
set_option maxHeartbeats 4000000 in
theorem tk_X4_held {ad0 : Nat → Nat} {G : Gm} {A : Nat → Prop} {p : Program} {l : Launch} {e : Env} {R : Room} {s0 : State} {m : MethodId} {args : Array Value} {below : List Frame} {meth : Method} {c : Code} {Q : State → Prop} {ρ : Type} {ret : Option Value → SS → Option ρ} {r : ρ} (X : Cx G A RX4 cX4_held 1 p s0 m args c) {D' : Nat} {cal : Cal SS} (hcal : calOK l G opsS D' cal) (hRm : ∀ k, k ≤ 21 → D' + 1 ≤ R.frames ∧ 8 + (k + 11) + 40 * D' ≤ R.locals) (hret : RetK G A cX4_held 113 6344 ad0 p l e R s0 m args below meth c Q opsS ret r .ireturn okI) : ∀ q ∈ tb_X4_held cal, OKi G A 1 113 6344 ad0 p l e R s0 m args below meth c Q opsS ret r q.1 q.2 :=
    okc (ok_iconst (n := 0) X (by decide +kernel) rfl rfl) (
    okc (ok_bipush (n := 12) X (by decide +kernel) rfl rfl) (
    okc (ok_iload_n (j := 0) X (by decide +kernel) rfl rfl) (
    okc (ok_callS (Y := (yJ9_min_7cf53, cJ9_min_7cf53, 2, (some .int))) X hcal opsS_n md_J9_min_7cf53 wc_J9_min_7cf53 wl_X4_85 wi_J9 ws_J9_min_7cf53 (by decide +kernel) (hRm 2 (by decide)) (by decide +kernel) rfl) (
    okc (ok_callS (Y := (yJ9_max_7cf53, cJ9_max_7cf53, 2, (some .int))) X hcal opsS_n md_J9_max_7cf53 wc_J9_max_7cf53 wl_X4_91 wi_J9 ws_J9_max_7cf53 (by decide +kernel) (hRm 2 (by decide)) (by decide +kernel) rfl) (
    okc (ok_iret hret (by decide +kernel)) (
    okn))))))
noncomputable def es_X4_held  : List (Nat × En) := [(268, en_J9_min_7cf53), (267, en_J9_max_7cf53)]
set_option maxRecDepth 100000 in
set_option maxHeartbeats 4000000 in
theorem eq_X4_held   (a0 : Int32) (s : SS) : ex (tb_X4_held (calE (es_X4_held))) rI [] (fun _ _ _ _ => none) 8 0 [some (.int a0)] [] s = f_X4_held a0 s := by
  rfl
set_option maxRecDepth 100000 in
set_option maxHeartbeats 4000000 in
theorem run_X4_held {l : Launch} {G : Gm}   (a0 : Int32) (s : SS) (q : (Int32 × SS)) (h : f_X4_held a0 s = some q) (D' : Nat) (hD : 1 ≤ D') : RunsM l G (D' + 1) (md 35) (embS s) [.int a0] (some (.int q.1)) (embS q.2) := by
  rw [md_X4_held]
  refine runs_I (plainFor_of_name (by decide +kernel)) (Nat.le_of_ble_eq_true rfl) rfl ?_
  intro A p e R s0 m args below meth c Q ad0 hR X hret
  have X : Cx G A RX4 cX4_held 1 p s0 m args c := X
  have hT := tk_X4_held X (calE_ok (es := es_X4_held) (enc (en_J9_min_7cf53_ok _ (by omega)) (enc (en_J9_max_7cf53_ok _ (by omega)) (enn)))) (rmD rfl hR) hret
  rw [← eq_X4_held   a0 s] at h
  refine ex_good hT (fun pc' ls' st' x' hh => ?_) 8 0 _ [] s h
  cases hh

noncomputable def en_X4_held  : En := fun _ av s k => match av with
  | [.int a0] => (bI (f_X4_held a0 s) k)
  | _ => none
set_option maxRecDepth 100000 in
set_option maxHeartbeats 4000000 in
theorem en_X4_held_ok {l : Launch} {G : Gm} (D : Nat) (hD : 2 ≤ D) : enOK l G D 35 en_X4_held := by
  intro ρ av x k r h
  unfold en_X4_held at h
  split at h
  · obtain ⟨q, h1, h2⟩ := bind_of h
    obtain ⟨D', rfl⟩ : ∃ D', D = D' + 1 := ⟨D - 1, by omega⟩
    exact ⟨_, _, h2, run_X4_held  _ _ _ h1 D' (by omega)⟩
  · cases h

/-! HatRank$Gauge others -/
noncomputable def tb_X4_others (cal : Cal SS) : List (Nat × Ins SS) := [(0, e_iconst (0) 1), (1, e_istore 4 3), (3, e_iconst (0) 4), (4, e_istore 5 6), (6, e_iload 5 8), (8, e_aload 0 9), (9, e_getR opsS 4 0 12), (12, e_getI opsS 9 0 15), (15, e_cge 44 18), (18, e_iload 5 20), (20, e_iload 2 21), (21, e_ceq 38 24), (24, e_aload 1 25), (25, e_getR opsS 2 1 28), (28, e_iload 5 30), (30, e_ald opsS 100 31), (31, e_iload 3 32), (32, e_cne 38 35), (35, e_iinc 4 (1) 38), (38, e_iinc 5 (1) 41), (41, e_goto 6), (44, e_iload 4 46), (46, e_iret)]
set_option maxRecDepth 100000 in
set_option maxHeartbeats 4000000 in
theorem tk_X4_others {ad0 : Nat → Nat} {G : Gm} {A : Nat → Prop} {p : Program} {l : Launch} {e : Env} {R : Room} {s0 : State} {m : MethodId} {args : Array Value} {below : List Frame} {meth : Method} {c : Code} {Q : State → Prop} {ρ : Type} {ret : Option Value → SS → Option ρ} {r : ρ} (X : Cx G A RX4 cX4_others 6 p s0 m args c) {D' : Nat} {cal : Cal SS} (hcal : calOK l G opsS D' cal) (hRm : ∀ k, k ≤ 21 → D' + 1 ≤ R.frames ∧ 8 + (k + 11) + 40 * D' ≤ R.locals) (hret : RetK G A cX4_others 113 6344 ad0 p l e R s0 m args below meth c Q opsS ret r .ireturn okI) : ∀ q ∈ tb_X4_others cal, OKi G A 6 113 6344 ad0 p l e R s0 m args below meth c Q opsS ret r q.1 q.2 :=
    okc (ok_iconst (n := 0) X (by decide +kernel) rfl rfl) (
    okc (ok_istore X (by decide +kernel) rfl) (
    okc (ok_iconst (n := 0) X (by decide +kernel) rfl rfl) (
    okc (ok_istore X (by decide +kernel) rfl) (
    okc (ok_iload X (by decide +kernel) rfl) (
    okc (ok_aload_n (j := 0) X (by decide +kernel) rfl rfl) (
    okc (ok_getR (ci := 4) (kf := 0) (idx := 15) (C := RX4) (T := TX4) (N := 4) X rfl (by decide) inX4 (by decide) wf_X4_15 (fun _ _ _ => rfl) (by decide +kernel) rfl) (
    okc (ok_getI (ci := 9) (kf := 0) (idx := 82) (C := RX9) (T := TX9) (N := 8) X rfl (by decide) inX9 (by decide) wf_X4_82 (fun _ _ _ => rfl) (by decide +kernel) rfl) (
    okc (ok_cge (off := 29) X (by decide +kernel) (by decide) rfl) (
    okc (ok_iload X (by decide +kernel) rfl) (
    okc (ok_iload_n (j := 2) X (by decide +kernel) rfl rfl) (
    okc (ok_ceq (off := 17) X (by decide +kernel) (by decide) rfl) (
    okc (ok_aload_n (j := 1) X (by decide +kernel) rfl rfl) (
    okc (ok_getR (ci := 2) (kf := 1) (idx := 38) (C := RX2) (T := TX2) (N := 4) X rfl (by decide) inX2 (by decide) wf_X4_38 (fun _ _ _ => rfl) (by decide +kernel) rfl) (
    okc (ok_iload X (by decide +kernel) rfl) (
    okc (ok_iald X (by decide +kernel) rfl) (
    okc (ok_iload_n (j := 3) X (by decide +kernel) rfl rfl) (
    okc (ok_cne (off := 6) X (by decide +kernel) (by decide) rfl) (
    okc (ok_iinc (n := 1) X (by decide +kernel) rfl rfl) (
    okc (ok_iinc (n := 1) X (by decide +kernel) rfl rfl) (
    okc (ok_goto (off := -35) X (by decide +kernel) (by decide)) (
    okc (ok_iload X (by decide +kernel) rfl) (
    okc (ok_iret hret (by decide +kernel)) (
    okn)))))))))))))))))))))))
noncomputable def es_X4_others  : List (Nat × En) := []
noncomputable def ka_X4_others_6 (d : Nat)  (n : Nat) : Kn SS (Int32 × SS) := fun pc ls st s => bif Nat.beq pc 6 then (match ls, st with
    | [some y0, some y1, some (.int x2), some (.int x3), some (.int x4), some (.int x5)], [] => (gd (veq y0 (.ref 27)) (gd (veq y1 (.ref d)) (F_X4_others_6 d n x2 x3 x4 x5 s)))
    | _, _ => none) else (none)
set_option maxRecDepth 100000 in
set_option maxHeartbeats 4000000 in
theorem eq_X4_others_6 (d : Nat)  (hd : (Nat.beq d 7 || Nat.beq d 30 || Nat.beq d 35) = true) (n : Nat) (x2 : Int32) (x3 : Int32) (x4 : Int32) (x5 : Int32) (s : SS) : ex (tb_X4_others (calE (es_X4_others))) rI [6] (ka_X4_others_6 d  n) 25 6 [some (.ref 27), some (.ref d), some (.int x2), some (.int x3), some (.int x4), some (.int x5)] [] s = F_X4_others_6 d  (n + 1) x2 x3 x4 x5 s := by
  rcases beq3 hd with rfl | rfl | rfl <;> rfl
set_option maxRecDepth 100000 in
set_option maxHeartbeats 4000000 in
theorem gd_X4_others_6 {ad0 : Nat → Nat} {G : Gm} {A : Nat → Prop} {p : Program} {l : Launch} {e : Env} {R : Room} {s0 : State} {m : MethodId} {args : Array Value} {below : List Frame} {meth : Method} {c : Code} {Q : State → Prop} {r : (Int32 × SS)} {d : Nat}  (hT : ∀ q ∈ tb_X4_others (calE (es_X4_others)), OKi G A 6 113 6344 ad0 p l e R s0 m args below meth c Q opsS rI r q.1 q.2)  (hd : (Nat.beq d 7 || Nat.beq d 30 || Nat.beq d 35) = true) : ∀ (n : Nat) (x2 : Int32) (x3 : Int32) (x4 : Int32) (x5 : Int32) (s : SS), F_X4_others_6 d  n x2 x3 x4 x5 s = some r → Gd G A 6 113 6344 ad0 p l e R s0 m args below meth c Q opsS 6 [some (.ref 27), some (.ref d), some (.int x2), some (.int x3), some (.int x4), some (.int x5)] [] s := by
  intro n
  induction n with
  | zero =>
    intro x2 x3 x4 x5 s hh
    exact absurd (show (none : Option (Int32 × SS)) = some r from hh) (by simp)
  | succ n ih =>
    intro x2 x3 x4 x5 s hh
    rw [← eq_X4_others_6 d  hd n x2 x3 x4 x5 s] at hh
    refine ex_good hT (fun pc' ls' st' x' hh => ?_) 25 6 _ [] s hh
    unfold ka_X4_others_6 at hh
    cases hb : Nat.beq pc' 6 with
    | true =>
      rw [hb] at hh
      have e9 := beq1 hb
      subst e9
      simp only [cond_true] at hh
      split at hh
      · obtain ⟨g0, hh1⟩ := gd_some hh
        have e0 := veq_of g0
        subst e0
        obtain ⟨g1, hh2⟩ := gd_some hh1
        have e1 := veq_of g1
        subst e1
        exact Gd.wk (ih _ _ _ _ _ hh2) (Lle.eq (Lle.eq (Lle.eq (Lle.eq (Lle.eq (Lle.eq Lle.nil))))))
      · cases hh
    | false =>
      rw [hb] at hh
      simp only [cond_false] at hh
      cases hh

noncomputable def ka_X4_others (d : Nat) : Kn SS (Int32 × SS) := fun pc ls st s => bif Nat.beq pc 6 then (match ls, st with
    | [some y0, some y1, some (.int x2), some (.int x3), some (.int x4), some (.int x5)], [] => (gd (veq y0 (.ref 27)) (gd (veq y1 (.ref d)) (F_X4_others_6 d fuel0 x2 x3 x4 x5 s)))
    | _, _ => none) else (none)
set_option maxRecDepth 100000 in
set_option maxHeartbeats 4000000 in
theorem eq_X4_others (d : Nat) (hd : (Nat.beq d 7 || Nat.beq d 30 || Nat.beq d 35) = true) (a0 : Int32) (a1 : Int32) (s : SS) : ex (tb_X4_others (calE (es_X4_others))) rI [6] (ka_X4_others d) 25 0 [some (.ref 27), some (.ref d), some (.int a0), some (.int a1), none, none] [] s = f_X4_others d a0 a1 s := by
  rcases beq3 hd with rfl | rfl | rfl <;> rfl
set_option maxRecDepth 100000 in
set_option maxHeartbeats 4000000 in
theorem run_X4_others {l : Launch} {G : Gm} {d : Nat} (hd : (Nat.beq d 7 || Nat.beq d 30 || Nat.beq d 35) = true) (a0 : Int32) (a1 : Int32) (s : SS) (q : (Int32 × SS)) (h : f_X4_others d a0 a1 s = some q) (D' : Nat) (hD : 0 ≤ D') : RunsM l G (D' + 1) (md 34) (embS s) [.ref 27, .ref d, .int a0, .int a1] (some (.int q.1)) (embS q.2) := by
  rw [md_X4_others]
  refine runs_I (plainFor_of_name (by decide +kernel)) (Nat.le_of_ble_eq_true rfl) rfl ?_
  intro A p e R s0 m args below meth c Q ad0 hR X hret
  have X : Cx G A RX4 cX4_others 6 p s0 m args c := X
  have hT := tk_X4_others X (calE_ok (es := es_X4_others) (enn)) (rmD rfl hR) hret
  rw [← eq_X4_others d hd a0 a1 s] at h
  refine ex_good hT (fun pc' ls' st' x' hh => ?_) 25 0 _ [] s h
  unfold ka_X4_others at hh
  cases hb : Nat.beq pc' 6 with
  | true =>
    rw [hb] at hh
    have e9 := beq1 hb
    subst e9
    simp only [cond_true] at hh
    split at hh
    · obtain ⟨g0, hh1⟩ := gd_some hh
      have e0 := veq_of g0
      subst e0
      obtain ⟨g1, hh2⟩ := gd_some hh1
      have e1 := veq_of g1
      subst e1
      exact Gd.wk (gd_X4_others_6 hT hd _ _ _ _ _ _ hh2) (Lle.eq (Lle.eq (Lle.eq (Lle.eq (Lle.eq (Lle.eq Lle.nil))))))
    · cases hh
  | false =>
    rw [hb] at hh
    simp only [cond_false] at hh
    cases hh

noncomputable def en_X4_others  : En := fun _ av s k => match av with
  | [.ref r0, .ref d, .int a0, .int a1] => (gd (Nat.beq r0 27) (gd (Nat.beq d 7 || Nat.beq d 30 || Nat.beq d 35) (bI (f_X4_others d a0 a1 s) k)))
  | _ => none
set_option maxRecDepth 100000 in
set_option maxHeartbeats 4000000 in
theorem en_X4_others_ok {l : Launch} {G : Gm} (D : Nat) (hD : 1 ≤ D) : enOK l G D 34 en_X4_others := by
  intro ρ av x k r h
  unfold en_X4_others at h
  split at h
  · obtain ⟨g0, h⟩ := gd_some h
    obtain ⟨g1, h⟩ := gd_some h
    obtain ⟨q, h1, h2⟩ := bind_of h
    have e0 := beq1 g0
    subst e0
    obtain ⟨D', rfl⟩ : ∃ D', D = D' + 1 := ⟨D - 1, by omega⟩
    exact ⟨_, _, h2, run_X4_others g1 _ _ _ _ h1 D' (by omega)⟩
  · cases h

/-! HatRank$Gauge number -/
noncomputable def tb_X4_number (cal : Cal SS) : List (Nat × Ins SS) := [(0, e_aload 1 1), (1, e_getR opsS 2 0 4), (4, e_iload 2 5), (5, e_ald opsS 100 6), (6, e_istore 6 8), (8, e_iload 6 10), (10, e_ifne 15 13), (13, e_iconst (0) 14), (14, e_iret), (15, e_aload 0 16), (16, e_getR opsS 4 0 19), (19, e_iload 3 20), (20, e_iload 4 22), (22, e_aload 0 23), (23, e_getI opsS 4 3 26), (26, e_callV opsS cal 83 3 9 29), (29, e_istore 7 31), (31, e_aload 0 32), (32, e_getR opsS 4 1 35), (35, e_callV opsS cal 64 0 8 38), (38, e_astore 8 40), (40, e_aload 8 42), (42, e_callV opsS cal 22 0 3 45), (45, e_ifeq 60 48), (48, e_iload 7 50), (50, e_iload 6 52), (52, e_bin aAdd 53), (53, e_iload 5 55), (55, e_bin aSub 56), (56, e_callS cal 35 1 59), (59, e_iret), (60, e_aload 8 62), (62, e_iconst (0) 63), (63, e_iload 7 65), (65, e_callV opsS cal 26 2 3 68), (68, e_aload 8 70), (70, e_iconst (1) 71), (71, e_iload 6 73), (73, e_callV opsS cal 26 2 3 76), (76, e_aload 8 78), (78, e_iconst (2) 79), (79, e_iload 5 81), (81, e_callV opsS cal 26 2 3 84), (84, e_aload 8 86), (86, e_iconst (3) 87), (87, e_iload 4 89), (89, e_callV opsS cal 26 2 3 92), (92, e_aload 8 94), (94, e_iconst (4) 95), (95, e_iload 2 96), (96, e_callV opsS cal 26 2 3 99), (99, e_aload 8 101), (101, e_iconst (5) 102), (102, e_aload 0 103), (103, e_aload 1 104), (104, e_iload 2 105), (105, e_iload 3 106), (106, e_callV opsS cal 34 3 4 109), (109, e_callV opsS cal 26 2 3 112), (112, e_aload 8 114), (114, e_callV opsS cal 27 0 3 117), (117, e_callS cal 35 1 120), (120, e_iret)]
set_option maxRecDepth 100000 in
set_option maxHeartbeats 4000000 in
theorem tk_X4_number {ad0 : Nat → Nat} {G : Gm} {A : Nat → Prop} {p : Program} {l : Launch} {e : Env} {R : Room} {s0 : State} {m : MethodId} {args : Array Value} {below : List Frame} {meth : Method} {c : Code} {Q : State → Prop} {ρ : Type} {ret : Option Value → SS → Option ρ} {r : ρ} (X : Cx G A RX4 cX4_number 9 p s0 m args c) {D' : Nat} {cal : Cal SS} (hcal : calOK l G opsS D' cal) (hRm : ∀ k, k ≤ 21 → D' + 1 ≤ R.frames ∧ 8 + (k + 11) + 40 * D' ≤ R.locals) (hret : RetK G A cX4_number 113 6344 ad0 p l e R s0 m args below meth c Q opsS ret r .ireturn okI) : ∀ q ∈ tb_X4_number cal, OKi G A 9 113 6344 ad0 p l e R s0 m args below meth c Q opsS ret r q.1 q.2 :=
    okc (ok_aload_n (j := 1) X (by decide +kernel) rfl rfl) (
    okc (ok_getR (ci := 2) (kf := 0) (idx := 33) (C := RX2) (T := TX2) (N := 4) X rfl (by decide) inX2 (by decide) wf_X4_33 (fun _ _ _ => rfl) (by decide +kernel) rfl) (
    okc (ok_iload_n (j := 2) X (by decide +kernel) rfl rfl) (
    okc (ok_iald X (by decide +kernel) rfl) (
    okc (ok_istore X (by decide +kernel) rfl) (
    okc (ok_iload X (by decide +kernel) rfl) (
    okc (ok_ifne (off := 5) X (by decide +kernel) (by decide) rfl) (
    okc (ok_iconst (n := 0) X (by decide +kernel) rfl rfl) (
    okc (ok_iret hret (by decide +kernel)) (
    okc (ok_aload_n (j := 0) X (by decide +kernel) rfl rfl) (
    okc (ok_getR (ci := 4) (kf := 0) (idx := 15) (C := RX4) (T := TX4) (N := 4) X rfl (by decide) inX4 (by decide) wf_X4_15 (fun _ _ _ => rfl) (by decide +kernel) rfl) (
    okc (ok_iload_n (j := 3) X (by decide +kernel) rfl rfl) (
    okc (ok_iload X (by decide +kernel) rfl) (
    okc (ok_aload_n (j := 0) X (by decide +kernel) rfl rfl) (
    okc (ok_getI (ci := 4) (kf := 3) (idx := 23) (C := RX4) (T := TX4) (N := 4) X rfl (by decide) inX4 (by decide) wf_X4_23 (fun _ _ _ => rfl) (by decide +kernel) rfl) (
    okc (ok_callV (ci := 9) (C := RX9) (T := TX9) (N := 8) (Y := (yX9_gust, cX9_gust, 4, (some .int))) X hcal opsS_n md_X9_gust rfl (by decide) rfl wc_X9_gust wl_X4_50 wi_X9 wm_X9_gust wv_X9_gust (by decide +kernel) (hRm 4 (by decide)) (by decide +kernel) rfl) (
    okc (ok_istore X (by decide +kernel) rfl) (
    okc (ok_aload_n (j := 0) X (by decide +kernel) rfl rfl) (
    okc (ok_getR (ci := 4) (kf := 1) (idx := 19) (C := RX4) (T := TX4) (N := 4) X rfl (by decide) inX4 (by decide) wf_X4_19 (fun _ _ _ => rfl) (by decide +kernel) rfl) (
    okc (ok_callV (ci := 8) (C := RX8) (T := TX8) (N := 5) (Y := (yX8_formula, cX8_formula, 1, (some (.object "HatRank$Formula")))) X hcal opsS_n md_X8_formula rfl (by decide) rfl wc_X8_formula wl_X4_54 wi_X8 wm_X8_formula wv_X8_formula (by decide +kernel) (hRm 1 (by decide)) (by decide +kernel) rfl) (
    okc (ok_astore X (by decide +kernel) rfl) (
    okc (ok_aload X (by decide +kernel) rfl) (
    okc (ok_callV (ci := 3) (C := RX3) (T := TX3) (N := 8) (Y := (yX3_isEmpty, cX3_isEmpty, 1, (some .boolean))) X hcal opsS_n md_X3_isEmpty rfl (by decide) rfl wc_X3_isEmpty wl_X4_60 wi_X3 wm_X3_isEmpty wv_X3_isEmpty (by decide +kernel) (hRm 1 (by decide)) (by decide +kernel) rfl) (
    okc (ok_ifeq (off := 15) X (by decide +kernel) (by decide) rfl) (
    okc (ok_iload X (by decide +kernel) rfl) (
    okc (ok_iload X (by decide +kernel) rfl) (
    okc (ok_iadd X (by decide +kernel) rfl) (
    okc (ok_iload X (by decide +kernel) rfl) (
    okc (ok_isub X (by decide +kernel) rfl) (
    okc (ok_callS (Y := (yX4_held, cX4_held, 1, (some .int))) X hcal opsS_n md_X4_held wc_X4_held wl_X4_66 wi_X4 ws_X4_held (by decide +kernel) (hRm 1 (by decide)) (by decide +kernel) rfl) (
    okc (ok_iret hret (by decide +kernel)) (
    okc (ok_aload X (by decide +kernel) rfl) (
    okc (ok_iconst (n := 0) X (by decide +kernel) rfl rfl) (
    okc (ok_iload X (by decide +kernel) rfl) (
    okc (ok_callV (ci := 3) (C := RX3) (T := TX3) (N := 8) (Y := (yX3_name, cX3_name, 3, none)) X hcal opsS_n md_X3_name rfl (by decide) rfl wc_X3_name wl_X4_70 wi_X3 wm_X3_name wv_X3_name (by decide +kernel) (hRm 3 (by decide)) (by decide +kernel) rfl) (
    okc (ok_aload X (by decide +kernel) rfl) (
    okc (ok_iconst (n := 1) X (by decide +kernel) rfl rfl) (
    okc (ok_iload X (by decide +kernel) rfl) (
    okc (ok_callV (ci := 3) (C := RX3) (T := TX3) (N := 8) (Y := (yX3_name, cX3_name, 3, none)) X hcal opsS_n md_X3_name rfl (by decide) rfl wc_X3_name wl_X4_70 wi_X3 wm_X3_name wv_X3_name (by decide +kernel) (hRm 3 (by decide)) (by decide +kernel) rfl) (
    okc (ok_aload X (by decide +kernel) rfl) (
    okc (ok_iconst (n := 2) X (by decide +kernel) rfl rfl) (
    okc (ok_iload X (by decide +kernel) rfl) (
    okc (ok_callV (ci := 3) (C := RX3) (T := TX3) (N := 8) (Y := (yX3_name, cX3_name, 3, none)) X hcal opsS_n md_X3_name rfl (by decide) rfl wc_X3_name wl_X4_70 wi_X3 wm_X3_name wv_X3_name (by decide +kernel) (hRm 3 (by decide)) (by decide +kernel) rfl) (
    okc (ok_aload X (by decide +kernel) rfl) (
    okc (ok_iconst (n := 3) X (by decide +kernel) rfl rfl) (
    okc (ok_iload X (by decide +kernel) rfl) (
    okc (ok_callV (ci := 3) (C := RX3) (T := TX3) (N := 8) (Y := (yX3_name, cX3_name, 3, none)) X hcal opsS_n md_X3_name rfl (by decide) rfl wc_X3_name wl_X4_70 wi_X3 wm_X3_name wv_X3_name (by decide +kernel) (hRm 3 (by decide)) (by decide +kernel) rfl) (
    okc (ok_aload X (by decide +kernel) rfl) (
    okc (ok_iconst (n := 4) X (by decide +kernel) rfl rfl) (
    okc (ok_iload_n (j := 2) X (by decide +kernel) rfl rfl) (
    okc (ok_callV (ci := 3) (C := RX3) (T := TX3) (N := 8) (Y := (yX3_name, cX3_name, 3, none)) X hcal opsS_n md_X3_name rfl (by decide) rfl wc_X3_name wl_X4_70 wi_X3 wm_X3_name wv_X3_name (by decide +kernel) (hRm 3 (by decide)) (by decide +kernel) rfl) (
    okc (ok_aload X (by decide +kernel) rfl) (
    okc (ok_iconst (n := 5) X (by decide +kernel) rfl rfl) (
    okc (ok_aload_n (j := 0) X (by decide +kernel) rfl rfl) (
    okc (ok_aload_n (j := 1) X (by decide +kernel) rfl rfl) (
    okc (ok_iload_n (j := 2) X (by decide +kernel) rfl rfl) (
    okc (ok_iload_n (j := 3) X (by decide +kernel) rfl rfl) (
    okc (ok_callV (ci := 4) (C := RX4) (T := TX4) (N := 4) (Y := (yX4_others, cX4_others, 6, (some .int))) X hcal opsS_n md_X4_others rfl (by decide) rfl wc_X4_others wl_X4_74 wi_X4 wm_X4_others wv_X4_others (by decide +kernel) (hRm 6 (by decide)) (by decide +kernel) rfl) (
    okc (ok_callV (ci := 3) (C := RX3) (T := TX3) (N := 8) (Y := (yX3_name, cX3_name, 3, none)) X hcal opsS_n md_X3_name rfl (by decide) rfl wc_X3_name wl_X4_70 wi_X3 wm_X3_name wv_X3_name (by decide +kernel) (hRm 3 (by decide)) (by decide +kernel) rfl) (
    okc (ok_aload X (by decide +kernel) rfl) (
    okc (ok_callV (ci := 3) (C := RX3) (T := TX3) (N := 8) (Y := (yX3_work, cX3_work, 3, (some .int))) X hcal opsS_n md_X3_work rfl (by decide) rfl wc_X3_work wl_X4_78 wi_X3 wm_X3_work wv_X3_work (by decide +kernel) (hRm 3 (by decide)) (by decide +kernel) rfl) (
    okc (ok_callS (Y := (yX4_held, cX4_held, 1, (some .int))) X hcal opsS_n md_X4_held wc_X4_held wl_X4_66 wi_X4 ws_X4_held (by decide +kernel) (hRm 1 (by decide)) (by decide +kernel) rfl) (
    okc (ok_iret hret (by decide +kernel)) (
    okn)))))))))))))))))))))))))))))))))))))))))))))))))))))))))))))))
noncomputable def es_X4_number  : List (Nat × En) := [(83, en_X9_gust), (64, en_X8_formula), (22, en_X3_isEmpty), (35, en_X4_held), (26, en_X3_name), (34, en_X4_others), (27, en_X3_work)]
set_option maxRecDepth 100000 in
set_option maxHeartbeats 4000000 in
theorem eq_X4_number (d : Nat) (hd : (Nat.beq d 7 || Nat.beq d 30 || Nat.beq d 35) = true) (a0 : Int32) (a1 : Int32) (a2 : Int32) (a3 : Int32) (s : SS) : ex (tb_X4_number (calE (es_X4_number))) rI [] (fun _ _ _ _ => none) 65 0 [some (.ref 27), some (.ref d), some (.int a0), some (.int a1), some (.int a2), some (.int a3), none, none, none] [] s = f_X4_number d a0 a1 a2 a3 s := by
  rcases beq3 hd with rfl | rfl | rfl <;> rfl
set_option maxRecDepth 100000 in
set_option maxHeartbeats 4000000 in
theorem run_X4_number {l : Launch} {G : Gm} {d : Nat} (hd : (Nat.beq d 7 || Nat.beq d 30 || Nat.beq d 35) = true) (a0 : Int32) (a1 : Int32) (a2 : Int32) (a3 : Int32) (s : SS) (q : (Int32 × SS)) (h : f_X4_number d a0 a1 a2 a3 s = some q) (D' : Nat) (hD : 2 ≤ D') : RunsM l G (D' + 1) (md 33) (embS s) [.ref 27, .ref d, .int a0, .int a1, .int a2, .int a3] (some (.int q.1)) (embS q.2) := by
  rw [md_X4_number]
  refine runs_I (plainFor_of_name (by decide +kernel)) (Nat.le_of_ble_eq_true rfl) rfl ?_
  intro A p e R s0 m args below meth c Q ad0 hR X hret
  have X : Cx G A RX4 cX4_number 9 p s0 m args c := X
  have hT := tk_X4_number X (calE_ok (es := es_X4_number) (enc (en_X9_gust_ok _ (by omega)) (enc (en_X8_formula_ok _ (by omega)) (enc (en_X3_isEmpty_ok _ (by omega)) (enc (en_X4_held_ok _ (by omega)) (enc (en_X3_name_ok _ (by omega)) (enc (en_X4_others_ok _ (by omega)) (enc (en_X3_work_ok _ (by omega)) (enn))))))))) (rmD rfl hR) hret
  rw [← eq_X4_number d hd a0 a1 a2 a3 s] at h
  refine ex_good hT (fun pc' ls' st' x' hh => ?_) 65 0 _ [] s h
  cases hh

noncomputable def en_X4_number  : En := fun _ av s k => match av with
  | [.ref r0, .ref d, .int a0, .int a1, .int a2, .int a3] => (gd (Nat.beq r0 27) (gd (Nat.beq d 7 || Nat.beq d 30 || Nat.beq d 35) (bI (f_X4_number d a0 a1 a2 a3 s) k)))
  | _ => none
set_option maxRecDepth 100000 in
set_option maxHeartbeats 4000000 in
theorem en_X4_number_ok {l : Launch} {G : Gm} (D : Nat) (hD : 3 ≤ D) : enOK l G D 33 en_X4_number := by
  intro ρ av x k r h
  unfold en_X4_number at h
  split at h
  · obtain ⟨g0, h⟩ := gd_some h
    obtain ⟨g1, h⟩ := gd_some h
    obtain ⟨q, h1, h2⟩ := bind_of h
    have e0 := beq1 g0
    subst e0
    obtain ⟨D', rfl⟩ : ∃ D', D = D' + 1 := ⟨D - 1, by omega⟩
    exact ⟨_, _, h2, run_X4_number g1 _ _ _ _ _ _ h1 D' (by omega)⟩
  · cases h

/-! HatRank$Gauge knownNumber -/
noncomputable def tb_X4_knownNumber (cal : Cal SS) : List (Nat × Ins SS) := [(0, e_iload 3 1), (1, e_iconst (6) 3), (3, e_bin aMul 4), (4, e_iload 2 5), (5, e_bin aAdd 6), (6, e_iconst (10) 8), (8, e_bin aMul 9), (9, e_aload 1 10), (10, e_getR opsS 2 0 13), (13, e_iload 2 14), (14, e_ald opsS 100 15), (15, e_bin aAdd 16), (16, e_istore 4 18), (18, e_iload 4 20), (20, e_iflt 33 23), (23, e_iload 4 25), (25, e_aload 0 26), (26, e_getR opsS 4 2 29), (29, e_alen opsS 30), (30, e_clt 35 33), (33, e_iconst (0) 34), (34, e_iret), (35, e_aload 0 36), (36, e_getR opsS 4 2 39), (39, e_iload 4 41), (41, e_ald opsS 100 42), (42, e_ifge 74 45), (45, e_aload 0 46), (46, e_getR opsS 4 2 49), (49, e_iload 4 51), (51, e_aload 0 52), (52, e_aload 1 53), (53, e_iload 2 54), (54, e_aload 1 55), (55, e_getR opsS 2 1 58), (58, e_iload 2 59), (59, e_ald opsS 100 60), (60, e_iload 3 61), (61, e_aload 0 62), (62, e_getR opsS 4 0 65), (65, e_getR opsS 9 3 68), (68, e_iload 2 69), (69, e_ald opsS 100 70), (70, e_callV opsS cal 33 5 4 73), (73, e_ast opsS 100 (fun v => v) 74), (74, e_aload 0 75), (75, e_getR opsS 4 2 78), (78, e_iload 4 80), (80, e_ald opsS 100 81), (81, e_iret)]
set_option maxRecDepth 100000 in
set_option maxHeartbeats 4000000 in
theorem tk_X4_knownNumber {ad0 : Nat → Nat} {G : Gm} {A : Nat → Prop} {p : Program} {l : Launch} {e : Env} {R : Room} {s0 : State} {m : MethodId} {args : Array Value} {below : List Frame} {meth : Method} {c : Code} {Q : State → Prop} {ρ : Type} {ret : Option Value → SS → Option ρ} {r : ρ} (X : Cx G A RX4 cX4_knownNumber 5 p s0 m args c) {D' : Nat} {cal : Cal SS} (hcal : calOK l G opsS D' cal) (hRm : ∀ k, k ≤ 21 → D' + 1 ≤ R.frames ∧ 8 + (k + 11) + 40 * D' ≤ R.locals) (hret : RetK G A cX4_knownNumber 113 6344 ad0 p l e R s0 m args below meth c Q opsS ret r .ireturn okI) : ∀ q ∈ tb_X4_knownNumber cal, OKi G A 5 113 6344 ad0 p l e R s0 m args below meth c Q opsS ret r q.1 q.2 :=
    okc (ok_iload_n (j := 3) X (by decide +kernel) rfl rfl) (
    okc (ok_bipush (n := 6) X (by decide +kernel) rfl rfl) (
    okc (ok_imul X (by decide +kernel) rfl) (
    okc (ok_iload_n (j := 2) X (by decide +kernel) rfl rfl) (
    okc (ok_iadd X (by decide +kernel) rfl) (
    okc (ok_bipush (n := 10) X (by decide +kernel) rfl rfl) (
    okc (ok_imul X (by decide +kernel) rfl) (
    okc (ok_aload_n (j := 1) X (by decide +kernel) rfl rfl) (
    okc (ok_getR (ci := 2) (kf := 0) (idx := 33) (C := RX2) (T := TX2) (N := 4) X rfl (by decide) inX2 (by decide) wf_X4_33 (fun _ _ _ => rfl) (by decide +kernel) rfl) (
    okc (ok_iload_n (j := 2) X (by decide +kernel) rfl rfl) (
    okc (ok_iald X (by decide +kernel) rfl) (
    okc (ok_iadd X (by decide +kernel) rfl) (
    okc (ok_istore X (by decide +kernel) rfl) (
    okc (ok_iload X (by decide +kernel) rfl) (
    okc (ok_iflt (off := 13) X (by decide +kernel) (by decide) rfl) (
    okc (ok_iload X (by decide +kernel) rfl) (
    okc (ok_aload_n (j := 0) X (by decide +kernel) rfl rfl) (
    okc (ok_getR (ci := 4) (kf := 2) (idx := 9) (C := RX4) (T := TX4) (N := 4) X rfl (by decide) inX4 (by decide) wf_X4_9 (fun _ _ _ => rfl) (by decide +kernel) rfl) (
    okc (ok_alen X (by decide +kernel) rfl) (
    okc (ok_clt (off := 5) X (by decide +kernel) (by decide) rfl) (
    okc (ok_iconst (n := 0) X (by decide +kernel) rfl rfl) (
    okc (ok_iret hret (by decide +kernel)) (
    okc (ok_aload_n (j := 0) X (by decide +kernel) rfl rfl) (
    okc (ok_getR (ci := 4) (kf := 2) (idx := 9) (C := RX4) (T := TX4) (N := 4) X rfl (by decide) inX4 (by decide) wf_X4_9 (fun _ _ _ => rfl) (by decide +kernel) rfl) (
    okc (ok_iload X (by decide +kernel) rfl) (
    okc (ok_iald X (by decide +kernel) rfl) (
    okc (ok_ifge (off := 32) X (by decide +kernel) (by decide) rfl) (
    okc (ok_aload_n (j := 0) X (by decide +kernel) rfl rfl) (
    okc (ok_getR (ci := 4) (kf := 2) (idx := 9) (C := RX4) (T := TX4) (N := 4) X rfl (by decide) inX4 (by decide) wf_X4_9 (fun _ _ _ => rfl) (by decide +kernel) rfl) (
    okc (ok_iload X (by decide +kernel) rfl) (
    okc (ok_aload_n (j := 0) X (by decide +kernel) rfl rfl) (
    okc (ok_aload_n (j := 1) X (by decide +kernel) rfl rfl) (
    okc (ok_iload_n (j := 2) X (by decide +kernel) rfl rfl) (
    okc (ok_aload_n (j := 1) X (by decide +kernel) rfl rfl) (
    okc (ok_getR (ci := 2) (kf := 1) (idx := 38) (C := RX2) (T := TX2) (N := 4) X rfl (by decide) inX2 (by decide) wf_X4_38 (fun _ _ _ => rfl) (by decide +kernel) rfl) (
    okc (ok_iload_n (j := 2) X (by decide +kernel) rfl rfl) (
    okc (ok_iald X (by decide +kernel) rfl) (
    okc (ok_iload_n (j := 3) X (by decide +kernel) rfl rfl) (
    okc (ok_aload_n (j := 0) X (by decide +kernel) rfl rfl) (
    okc (ok_getR (ci := 4) (kf := 0) (idx := 15) (C := RX4) (T := TX4) (N := 4) X rfl (by decide) inX4 (by decide) wf_X4_15 (fun _ _ _ => rfl) (by decide +kernel) rfl) (
    okc (ok_getR (ci := 9) (kf := 3) (idx := 41) (C := RX9) (T := TX9) (N := 8) X rfl (by decide) inX9 (by decide) wf_X4_41 (fun _ _ _ => rfl) (by decide +kernel) rfl) (
    okc (ok_iload_n (j := 2) X (by decide +kernel) rfl rfl) (
    okc (ok_iald X (by decide +kernel) rfl) (
    okc (ok_callV (ci := 4) (C := RX4) (T := TX4) (N := 4) (Y := (yX4_number, cX4_number, 9, (some .int))) X hcal opsS_n md_X4_number rfl (by decide) rfl wc_X4_number wl_X4_46 wi_X4 wm_X4_number wv_X4_number (by decide +kernel) (hRm 9 (by decide)) (by decide +kernel) rfl) (
    okc (ok_iast X opsS_ok (by decide +kernel) rfl) (
    okc (ok_aload_n (j := 0) X (by decide +kernel) rfl rfl) (
    okc (ok_getR (ci := 4) (kf := 2) (idx := 9) (C := RX4) (T := TX4) (N := 4) X rfl (by decide) inX4 (by decide) wf_X4_9 (fun _ _ _ => rfl) (by decide +kernel) rfl) (
    okc (ok_iload X (by decide +kernel) rfl) (
    okc (ok_iald X (by decide +kernel) rfl) (
    okc (ok_iret hret (by decide +kernel)) (
    okn))))))))))))))))))))))))))))))))))))))))))))))))))
noncomputable def es_X4_knownNumber  : List (Nat × En) := [(33, en_X4_number)]
set_option maxRecDepth 100000 in
set_option maxHeartbeats 4000000 in
theorem eq_X4_knownNumber (d : Nat) (hd : (Nat.beq d 7 || Nat.beq d 30 || Nat.beq d 35) = true) (a0 : Int32) (a1 : Int32) (s : SS) : ex (tb_X4_knownNumber (calE (es_X4_knownNumber))) rI [] (fun _ _ _ _ => none) 52 0 [some (.ref 27), some (.ref d), some (.int a0), some (.int a1), none] [] s = f_X4_knownNumber d a0 a1 s := by
  rcases beq3 hd with rfl | rfl | rfl <;> rfl
set_option maxRecDepth 100000 in
set_option maxHeartbeats 4000000 in
theorem run_X4_knownNumber {l : Launch} {G : Gm} {d : Nat} (hd : (Nat.beq d 7 || Nat.beq d 30 || Nat.beq d 35) = true) (a0 : Int32) (a1 : Int32) (s : SS) (q : (Int32 × SS)) (h : f_X4_knownNumber d a0 a1 s = some q) (D' : Nat) (hD : 3 ≤ D') : RunsM l G (D' + 1) (md 32) (embS s) [.ref 27, .ref d, .int a0, .int a1] (some (.int q.1)) (embS q.2) := by
  rw [md_X4_knownNumber]
  refine runs_I (plainFor_of_name (by decide +kernel)) (Nat.le_of_ble_eq_true rfl) rfl ?_
  intro A p e R s0 m args below meth c Q ad0 hR X hret
  have X : Cx G A RX4 cX4_knownNumber 5 p s0 m args c := X
  have hT := tk_X4_knownNumber X (calE_ok (es := es_X4_knownNumber) (enc (en_X4_number_ok _ (by omega)) (enn))) (rmD rfl hR) hret
  rw [← eq_X4_knownNumber d hd a0 a1 s] at h
  refine ex_good hT (fun pc' ls' st' x' hh => ?_) 52 0 _ [] s h
  cases hh

noncomputable def en_X4_knownNumber  : En := fun _ av s k => match av with
  | [.ref r0, .ref d, .int a0, .int a1] => (gd (Nat.beq r0 27) (gd (Nat.beq d 7 || Nat.beq d 30 || Nat.beq d 35) (bI (f_X4_knownNumber d a0 a1 s) k)))
  | _ => none
set_option maxRecDepth 100000 in
set_option maxHeartbeats 4000000 in
theorem en_X4_knownNumber_ok {l : Launch} {G : Gm} (D : Nat) (hD : 4 ≤ D) : enOK l G D 32 en_X4_knownNumber := by
  intro ρ av x k r h
  unfold en_X4_knownNumber at h
  split at h
  · obtain ⟨g0, h⟩ := gd_some h
    obtain ⟨g1, h⟩ := gd_some h
    obtain ⟨q, h1, h2⟩ := bind_of h
    have e0 := beq1 g0
    subst e0
    obtain ⟨D', rfl⟩ : ∃ D', D = D' + 1 := ⟨D - 1, by omega⟩
    exact ⟨_, _, h2, run_X4_knownNumber g1 _ _ _ _ h1 D' (by omega)⟩
  · cases h

/-! HatRank$Wind takeUp -/
noncomputable def tb_X10_takeUp (cal : Cal SS) : List (Nat × Ins SS) := [(0, e_iconst (0) 1), (1, e_istore 2 2), (2, e_iload 2 3), (3, e_aload 0 4), (4, e_getR opsS 10 0 7), (7, e_getI opsS 9 0 10), (10, e_cge 66 13), (13, e_aload 1 14), (14, e_getR opsS 2 1 17), (17, e_iload 2 18), (18, e_ald opsS 100 19), (19, e_istore 3 20), (20, e_aload 1 21), (21, e_getR opsS 2 0 24), (24, e_iload 2 25), (25, e_ald opsS 100 26), (26, e_iconst (9) 28), (28, e_cge 60 31), (31, e_aload 1 32), (32, e_getR opsS 2 2 35), (35, e_iload 3 36), (36, e_ald opsS 100 37), (37, e_ifle 60 40), (40, e_aload 1 41), (41, e_getR opsS 2 0 44), (44, e_iload 2 45), (45, e_dup2 46), (46, e_ald opsS 100 47), (47, e_iconst (1) 48), (48, e_bin aAdd 49), (49, e_ast opsS 100 (fun v => v) 50), (50, e_aload 1 51), (51, e_getR opsS 2 2 54), (54, e_iload 3 55), (55, e_dup2 56), (56, e_ald opsS 100 57), (57, e_iconst (1) 58), (58, e_bin aSub 59), (59, e_ast opsS 100 (fun v => v) 60), (60, e_iinc 2 (1) 63), (63, e_goto 2), (66, e_vret)]
set_option maxRecDepth 100000 in
set_option maxHeartbeats 4000000 in
theorem tk_X10_takeUp {ad0 : Nat → Nat} {G : Gm} {A : Nat → Prop} {p : Program} {l : Launch} {e : Env} {R : Room} {s0 : State} {m : MethodId} {args : Array Value} {below : List Frame} {meth : Method} {c : Code} {Q : State → Prop} {ρ : Type} {ret : Option Value → SS → Option ρ} {r : ρ} (X : Cx G A RX10 cX10_takeUp 4 p s0 m args c) {D' : Nat} {cal : Cal SS} (hcal : calOK l G opsS D' cal) (hRm : ∀ k, k ≤ 21 → D' + 1 ≤ R.frames ∧ 8 + (k + 11) + 40 * D' ≤ R.locals) (hret : RetK G A cX10_takeUp 113 6344 ad0 p l e R s0 m args below meth c Q opsS ret r .return_ okV) : ∀ q ∈ tb_X10_takeUp cal, OKi G A 4 113 6344 ad0 p l e R s0 m args below meth c Q opsS ret r q.1 q.2 :=
    okc (ok_iconst (n := 0) X (by decide +kernel) rfl rfl) (
    okc (ok_istore_n (j := 2) X (by decide +kernel) rfl rfl) (
    okc (ok_iload_n (j := 2) X (by decide +kernel) rfl rfl) (
    okc (ok_aload_n (j := 0) X (by decide +kernel) rfl rfl) (
    okc (ok_getR (ci := 10) (kf := 0) (idx := 18) (C := RX10) (T := TX10) (N := 4) X rfl (by decide) inX10 (by decide) wf_X10_18 (fun _ _ _ => rfl) (by decide +kernel) rfl) (
    okc (ok_getI (ci := 9) (kf := 0) (idx := 48) (C := RX9) (T := TX9) (N := 8) X rfl (by decide) inX9 (by decide) wf_X10_48 (fun _ _ _ => rfl) (by decide +kernel) rfl) (
    okc (ok_cge (off := 56) X (by decide +kernel) (by decide) rfl) (
    okc (ok_aload_n (j := 1) X (by decide +kernel) rfl rfl) (
    okc (ok_getR (ci := 2) (kf := 1) (idx := 72) (C := RX2) (T := TX2) (N := 4) X rfl (by decide) inX2 (by decide) wf_X10_72 (fun _ _ _ => rfl) (by decide +kernel) rfl) (
    okc (ok_iload_n (j := 2) X (by decide +kernel) rfl rfl) (
    okc (ok_iald X (by decide +kernel) rfl) (
    okc (ok_istore_n (j := 3) X (by decide +kernel) rfl rfl) (
    okc (ok_aload_n (j := 1) X (by decide +kernel) rfl rfl) (
    okc (ok_getR (ci := 2) (kf := 0) (idx := 61) (C := RX2) (T := TX2) (N := 4) X rfl (by decide) inX2 (by decide) wf_X10_61 (fun _ _ _ => rfl) (by decide +kernel) rfl) (
    okc (ok_iload_n (j := 2) X (by decide +kernel) rfl rfl) (
    okc (ok_iald X (by decide +kernel) rfl) (
    okc (ok_bipush (n := 9) X (by decide +kernel) rfl rfl) (
    okc (ok_cge (off := 32) X (by decide +kernel) (by decide) rfl) (
    okc (ok_aload_n (j := 1) X (by decide +kernel) rfl rfl) (
    okc (ok_getR (ci := 2) (kf := 2) (idx := 75) (C := RX2) (T := TX2) (N := 4) X rfl (by decide) inX2 (by decide) wf_X10_75 (fun _ _ _ => rfl) (by decide +kernel) rfl) (
    okc (ok_iload_n (j := 3) X (by decide +kernel) rfl rfl) (
    okc (ok_iald X (by decide +kernel) rfl) (
    okc (ok_ifle (off := 23) X (by decide +kernel) (by decide) rfl) (
    okc (ok_aload_n (j := 1) X (by decide +kernel) rfl rfl) (
    okc (ok_getR (ci := 2) (kf := 0) (idx := 61) (C := RX2) (T := TX2) (N := 4) X rfl (by decide) inX2 (by decide) wf_X10_61 (fun _ _ _ => rfl) (by decide +kernel) rfl) (
    okc (ok_iload_n (j := 2) X (by decide +kernel) rfl rfl) (
    okc (ok_dup2 X (by decide +kernel) rfl) (
    okc (ok_iald X (by decide +kernel) rfl) (
    okc (ok_iconst (n := 1) X (by decide +kernel) rfl rfl) (
    okc (ok_iadd X (by decide +kernel) rfl) (
    okc (ok_iast X opsS_ok (by decide +kernel) rfl) (
    okc (ok_aload_n (j := 1) X (by decide +kernel) rfl rfl) (
    okc (ok_getR (ci := 2) (kf := 2) (idx := 75) (C := RX2) (T := TX2) (N := 4) X rfl (by decide) inX2 (by decide) wf_X10_75 (fun _ _ _ => rfl) (by decide +kernel) rfl) (
    okc (ok_iload_n (j := 3) X (by decide +kernel) rfl rfl) (
    okc (ok_dup2 X (by decide +kernel) rfl) (
    okc (ok_iald X (by decide +kernel) rfl) (
    okc (ok_iconst (n := 1) X (by decide +kernel) rfl rfl) (
    okc (ok_isub X (by decide +kernel) rfl) (
    okc (ok_iast X opsS_ok (by decide +kernel) rfl) (
    okc (ok_iinc (n := 1) X (by decide +kernel) rfl rfl) (
    okc (ok_goto (off := -61) X (by decide +kernel) (by decide)) (
    okc (ok_vret hret (by decide +kernel)) (
    okn))))))))))))))))))))))))))))))))))))))))))
noncomputable def es_X10_takeUp  : List (Nat × En) := []
noncomputable def ka_X10_takeUp_2 (d : Nat)  (n : Nat) : Kn SS SS := fun pc ls st s => bif Nat.beq pc 2 then (match ls, st with
    | [some y0, some y1, some (.int x2), _], [] => (gd (veq y0 (.ref 29)) (gd (veq y1 (.ref d)) (F_X10_takeUp_2 d n x2 s)))
    | _, _ => none) else (none)
set_option maxRecDepth 100000 in
set_option maxHeartbeats 4000000 in
theorem eq_X10_takeUp_2 (d : Nat)  (hd : (Nat.beq d 7 || Nat.beq d 30 || Nat.beq d 35) = true) (n : Nat) (x2 : Int32) (s : SS) : ex (tb_X10_takeUp (calE (es_X10_takeUp))) rV [2] (ka_X10_takeUp_2 d  n) 44 2 [some (.ref 29), some (.ref d), some (.int x2), none] [] s = F_X10_takeUp_2 d  (n + 1) x2 s := by
  rcases beq3 hd with rfl | rfl | rfl <;> rfl
set_option maxRecDepth 100000 in
set_option maxHeartbeats 4000000 in
theorem gd_X10_takeUp_2 {ad0 : Nat → Nat} {G : Gm} {A : Nat → Prop} {p : Program} {l : Launch} {e : Env} {R : Room} {s0 : State} {m : MethodId} {args : Array Value} {below : List Frame} {meth : Method} {c : Code} {Q : State → Prop} {r : SS} {d : Nat}  (hT : ∀ q ∈ tb_X10_takeUp (calE (es_X10_takeUp)), OKi G A 4 113 6344 ad0 p l e R s0 m args below meth c Q opsS rV r q.1 q.2)  (hd : (Nat.beq d 7 || Nat.beq d 30 || Nat.beq d 35) = true) : ∀ (n : Nat) (x2 : Int32) (s : SS), F_X10_takeUp_2 d  n x2 s = some r → Gd G A 4 113 6344 ad0 p l e R s0 m args below meth c Q opsS 2 [some (.ref 29), some (.ref d), some (.int x2), none] [] s := by
  intro n
  induction n with
  | zero =>
    intro x2 s hh
    exact absurd (show (none : Option SS) = some r from hh) (by simp)
  | succ n ih =>
    intro x2 s hh
    rw [← eq_X10_takeUp_2 d  hd n x2 s] at hh
    refine ex_good hT (fun pc' ls' st' x' hh => ?_) 44 2 _ [] s hh
    unfold ka_X10_takeUp_2 at hh
    cases hb : Nat.beq pc' 2 with
    | true =>
      rw [hb] at hh
      have e9 := beq1 hb
      subst e9
      simp only [cond_true] at hh
      split at hh
      · obtain ⟨g0, hh1⟩ := gd_some hh
        have e0 := veq_of g0
        subst e0
        obtain ⟨g1, hh2⟩ := gd_some hh1
        have e1 := veq_of g1
        subst e1
        exact Gd.wk (ih _ _ hh2) (Lle.eq (Lle.eq (Lle.eq (Lle.no Lle.nil))))
      · cases hh
    | false =>
      rw [hb] at hh
      simp only [cond_false] at hh
      cases hh

noncomputable def ka_X10_takeUp (d : Nat) : Kn SS SS := fun pc ls st s => bif Nat.beq pc 2 then (match ls, st with
    | [some y0, some y1, some (.int x2), _], [] => (gd (veq y0 (.ref 29)) (gd (veq y1 (.ref d)) (F_X10_takeUp_2 d fuel0 x2 s)))
    | _, _ => none) else (none)
set_option maxRecDepth 100000 in
set_option maxHeartbeats 4000000 in
theorem eq_X10_takeUp (d : Nat) (hd : (Nat.beq d 7 || Nat.beq d 30 || Nat.beq d 35) = true)  (s : SS) : ex (tb_X10_takeUp (calE (es_X10_takeUp))) rV [2] (ka_X10_takeUp d) 44 0 [some (.ref 29), some (.ref d), none, none] [] s = f_X10_takeUp d s := by
  rcases beq3 hd with rfl | rfl | rfl <;> rfl
set_option maxRecDepth 100000 in
set_option maxHeartbeats 4000000 in
theorem run_X10_takeUp {l : Launch} {G : Gm} {d : Nat} (hd : (Nat.beq d 7 || Nat.beq d 30 || Nat.beq d 35) = true)  (s : SS) (q : SS) (h : f_X10_takeUp d s = some q) (D' : Nat) (hD : 0 ≤ D') : RunsM l G (D' + 1) (md 93) (embS s) [.ref 29, .ref d] none (embS q) := by
  rw [md_X10_takeUp]
  refine runs_V (plainFor_of_name (by decide +kernel)) (Nat.le_of_ble_eq_true rfl) rfl ?_
  intro A p e R s0 m args below meth c Q ad0 hR X hret
  have X : Cx G A RX10 cX10_takeUp 4 p s0 m args c := X
  have hT := tk_X10_takeUp X (calE_ok (es := es_X10_takeUp) (enn)) (rmD rfl hR) hret
  rw [← eq_X10_takeUp d hd  s] at h
  refine ex_good hT (fun pc' ls' st' x' hh => ?_) 44 0 _ [] s h
  unfold ka_X10_takeUp at hh
  cases hb : Nat.beq pc' 2 with
  | true =>
    rw [hb] at hh
    have e9 := beq1 hb
    subst e9
    simp only [cond_true] at hh
    split at hh
    · obtain ⟨g0, hh1⟩ := gd_some hh
      have e0 := veq_of g0
      subst e0
      obtain ⟨g1, hh2⟩ := gd_some hh1
      have e1 := veq_of g1
      subst e1
      exact Gd.wk (gd_X10_takeUp_2 hT hd _ _ _ hh2) (Lle.eq (Lle.eq (Lle.eq (Lle.no Lle.nil))))
    · cases hh
  | false =>
    rw [hb] at hh
    simp only [cond_false] at hh
    cases hh

noncomputable def en_X10_takeUp  : En := fun _ av s k => match av with
  | [.ref r0, .ref d] => (gd (Nat.beq r0 29) (gd (Nat.beq d 7 || Nat.beq d 30 || Nat.beq d 35) (bV (f_X10_takeUp d s) k)))
  | _ => none
set_option maxRecDepth 100000 in
set_option maxHeartbeats 4000000 in
theorem en_X10_takeUp_ok {l : Launch} {G : Gm} (D : Nat) (hD : 1 ≤ D) : enOK l G D 93 en_X10_takeUp := by
  intro ρ av x k r h
  unfold en_X10_takeUp at h
  split at h
  · obtain ⟨g0, h⟩ := gd_some h
    obtain ⟨g1, h⟩ := gd_some h
    obtain ⟨q, h1, h2⟩ := bind_of h
    have e0 := beq1 g0
    subst e0
    obtain ⟨D', rfl⟩ : ∃ D', D = D' + 1 := ⟨D - 1, by omega⟩
    exact ⟨_, _, h2, run_X10_takeUp g1  _ _ h1 D' (by omega)⟩
  · cases h

/-! HatRank$Wind catches -/
noncomputable def tb_X10_catches (cal : Cal SS) : List (Nat × Ins SS) := [(0, e_aload 0 1), (1, e_getR opsS 2 1 4), (4, e_iload 1 5), (5, e_ald opsS 100 6), (6, e_iload 2 7), (7, e_cne 25 10), (10, e_aload 0 11), (11, e_getR opsS 2 0 14), (14, e_iload 1 15), (15, e_ald opsS 100 16), (16, e_iconst (9) 18), (18, e_cge 25 21), (21, e_iconst (1) 22), (22, e_goto 26), (25, e_iconst (0) 26), (26, e_zret)]
set_option maxRecDepth 100000 in
set_option maxHeartbeats 4000000 in
theorem tk_X10_catches {ad0 : Nat → Nat} {G : Gm} {A : Nat → Prop} {p : Program} {l : Launch} {e : Env} {R : Room} {s0 : State} {m : MethodId} {args : Array Value} {below : List Frame} {meth : Method} {c : Code} {Q : State → Prop} {ρ : Type} {ret : Option Value → SS → Option ρ} {r : ρ} (X : Cx G A RX10 cX10_catches 3 p s0 m args c) {D' : Nat} {cal : Cal SS} (hcal : calOK l G opsS D' cal) (hRm : ∀ k, k ≤ 21 → D' + 1 ≤ R.frames ∧ 8 + (k + 11) + 40 * D' ≤ R.locals) (hret : RetK G A cX10_catches 113 6344 ad0 p l e R s0 m args below meth c Q opsS ret r .ireturn okZ) : ∀ q ∈ tb_X10_catches cal, OKi G A 3 113 6344 ad0 p l e R s0 m args below meth c Q opsS ret r q.1 q.2 :=
    okc (ok_aload_n (j := 0) X (by decide +kernel) rfl rfl) (
    okc (ok_getR (ci := 2) (kf := 1) (idx := 72) (C := RX2) (T := TX2) (N := 4) X rfl (by decide) inX2 (by decide) wf_X10_72 (fun _ _ _ => rfl) (by decide +kernel) rfl) (
    okc (ok_iload_n (j := 1) X (by decide +kernel) rfl rfl) (
    okc (ok_iald X (by decide +kernel) rfl) (
    okc (ok_iload_n (j := 2) X (by decide +kernel) rfl rfl) (
    okc (ok_cne (off := 18) X (by decide +kernel) (by decide) rfl) (
    okc (ok_aload_n (j := 0) X (by decide +kernel) rfl rfl) (
    okc (ok_getR (ci := 2) (kf := 0) (idx := 61) (C := RX2) (T := TX2) (N := 4) X rfl (by decide) inX2 (by decide) wf_X10_61 (fun _ _ _ => rfl) (by decide +kernel) rfl) (
    okc (ok_iload_n (j := 1) X (by decide +kernel) rfl rfl) (
    okc (ok_iald X (by decide +kernel) rfl) (
    okc (ok_bipush (n := 9) X (by decide +kernel) rfl rfl) (
    okc (ok_cge (off := 7) X (by decide +kernel) (by decide) rfl) (
    okc (ok_iconst (n := 1) X (by decide +kernel) rfl rfl) (
    okc (ok_goto (off := 4) X (by decide +kernel) (by decide)) (
    okc (ok_iconst (n := 0) X (by decide +kernel) rfl rfl) (
    okc (ok_zret hret (by decide +kernel)) (
    okn))))))))))))))))
noncomputable def es_X10_catches  : List (Nat × En) := []
set_option maxRecDepth 100000 in
set_option maxHeartbeats 4000000 in
theorem eq_X10_catches (d : Nat) (hd : (Nat.beq d 7 || Nat.beq d 30 || Nat.beq d 35) = true) (a0 : Int32) (a1 : Int32) (s : SS) : ex (tb_X10_catches (calE (es_X10_catches))) rI [] (fun _ _ _ _ => none) 18 0 [some (.ref d), some (.int a0), some (.int a1)] [] s = f_X10_catches d a0 a1 s := by
  rcases beq3 hd with rfl | rfl | rfl <;> rfl
set_option maxRecDepth 100000 in
set_option maxHeartbeats 4000000 in
theorem run_X10_catches {l : Launch} {G : Gm} {d : Nat} (hd : (Nat.beq d 7 || Nat.beq d 30 || Nat.beq d 35) = true) (a0 : Int32) (a1 : Int32) (s : SS) (q : (Int32 × SS)) (h : f_X10_catches d a0 a1 s = some q) (D' : Nat) (hD : 0 ≤ D') : RunsM l G (D' + 1) (md 98) (embS s) [.ref d, .int a0, .int a1] (some (.int q.1)) (embS q.2) := by
  rw [md_X10_catches]
  refine runs_Z (plainFor_of_name (by decide +kernel)) (Nat.le_of_ble_eq_true rfl) rfl ?_
  intro A p e R s0 m args below meth c Q ad0 hR X hret
  have X : Cx G A RX10 cX10_catches 3 p s0 m args c := X
  have hT := tk_X10_catches X (calE_ok (es := es_X10_catches) (enn)) (rmD rfl hR) hret
  rw [← eq_X10_catches d hd a0 a1 s] at h
  refine ex_good hT (fun pc' ls' st' x' hh => ?_) 18 0 _ [] s h
  cases hh

noncomputable def en_X10_catches  : En := fun _ av s k => match av with
  | [.ref d, .int a0, .int a1] => (gd (Nat.beq d 7 || Nat.beq d 30 || Nat.beq d 35) (bI (f_X10_catches d a0 a1 s) k))
  | _ => none
set_option maxRecDepth 100000 in
set_option maxHeartbeats 4000000 in
theorem en_X10_catches_ok {l : Launch} {G : Gm} (D : Nat) (hD : 1 ≤ D) : enOK l G D 98 en_X10_catches := by
  intro ρ av x k r h
  unfold en_X10_catches at h
  split at h
  · obtain ⟨g0, h⟩ := gd_some h
    obtain ⟨q, h1, h2⟩ := bind_of h
    obtain ⟨D', rfl⟩ : ∃ D', D = D' + 1 := ⟨D - 1, by omega⟩
    exact ⟨_, _, h2, run_X10_catches g0 _ _ _ _ h1 D' (by omega)⟩
  · cases h

/-! HatRank$Wind landing -/
noncomputable def tb_X10_landing (cal : Cal SS) : List (Nat × Ins SS) := [(0, e_aload 1 1), (1, e_getR opsS 2 1 4), (4, e_iload 2 5), (5, e_ald opsS 100 6), (6, e_istore 3 7), (7, e_iconst (1) 8), (8, e_istore 4 10), (10, e_iload 4 12), (12, e_aload 0 13), (13, e_getR opsS 10 0 16), (16, e_getI opsS 9 0 19), (19, e_cge 76 22), (22, e_iload 2 23), (23, e_iload 4 25), (25, e_bin aAdd 26), (26, e_aload 0 27), (27, e_getR opsS 10 0 30), (30, e_getI opsS 9 0 33), (33, e_cge 43 36), (36, e_iload 2 37), (37, e_iload 4 39), (39, e_bin aAdd 40), (40, e_goto 55), (43, e_iload 2 44), (44, e_iload 4 46), (46, e_bin aAdd 47), (47, e_aload 0 48), (48, e_getR opsS 10 0 51), (51, e_getI opsS 9 0 54), (54, e_bin aSub 55), (55, e_istore 5 57), (57, e_aload 1 58), (58, e_iload 5 60), (60, e_iload 3 61), (61, e_callS cal 98 3 64), (64, e_ifeq 70 67), (67, e_iload 5 69), (69, e_iret), (70, e_iinc 4 (1) 73), (73, e_goto 10), (76, e_aload 0 77), (77, e_getR opsS 10 0 80), (80, e_getR opsS 9 5 83), (83, e_iload 3 84), (84, e_ald opsS 100 85), (85, e_istore 4 87), (87, e_iload 4 89), (89, e_iload 3 90), (90, e_ceq 105 93), (93, e_aload 0 94), (94, e_getR opsS 10 0 97), (97, e_iload 4 99), (99, e_callV opsS cal 78 1 9 102), (102, e_ifne 109 105), (105, e_iconst (-1) 106), (106, e_iload 3 107), (107, e_bin aSub 108), (108, e_iret), (109, e_iconst (0) 110), (110, e_istore 5 112), (112, e_iload 5 114), (114, e_aload 0 115), (115, e_getR opsS 10 0 118), (118, e_getI opsS 9 0 121), (121, e_cge 144 124), (124, e_aload 1 125), (125, e_iload 5 127), (127, e_iload 4 129), (129, e_callS cal 98 3 132), (132, e_ifeq 138 135), (135, e_iload 5 137), (137, e_iret), (138, e_iinc 5 (1) 141), (141, e_goto 112), (144, e_iconst (-1) 145), (145, e_iload 4 147), (147, e_bin aSub 148), (148, e_iret)]
set_option maxRecDepth 100000 in
set_option maxHeartbeats 4000000 in
theorem tk_X10_landing {ad0 : Nat → Nat} {G : Gm} {A : Nat → Prop} {p : Program} {l : Launch} {e : Env} {R : Room} {s0 : State} {m : MethodId} {args : Array Value} {below : List Frame} {meth : Method} {c : Code} {Q : State → Prop} {ρ : Type} {ret : Option Value → SS → Option ρ} {r : ρ} (X : Cx G A RX10 cX10_landing 6 p s0 m args c) {D' : Nat} {cal : Cal SS} (hcal : calOK l G opsS D' cal) (hRm : ∀ k, k ≤ 21 → D' + 1 ≤ R.frames ∧ 8 + (k + 11) + 40 * D' ≤ R.locals) (hret : RetK G A cX10_landing 113 6344 ad0 p l e R s0 m args below meth c Q opsS ret r .ireturn okI) : ∀ q ∈ tb_X10_landing cal, OKi G A 6 113 6344 ad0 p l e R s0 m args below meth c Q opsS ret r q.1 q.2 :=
    okc (ok_aload_n (j := 1) X (by decide +kernel) rfl rfl) (
    okc (ok_getR (ci := 2) (kf := 1) (idx := 72) (C := RX2) (T := TX2) (N := 4) X rfl (by decide) inX2 (by decide) wf_X10_72 (fun _ _ _ => rfl) (by decide +kernel) rfl) (
    okc (ok_iload_n (j := 2) X (by decide +kernel) rfl rfl) (
    okc (ok_iald X (by decide +kernel) rfl) (
    okc (ok_istore_n (j := 3) X (by decide +kernel) rfl rfl) (
    okc (ok_iconst (n := 1) X (by decide +kernel) rfl rfl) (
    okc (ok_istore X (by decide +kernel) rfl) (
    okc (ok_iload X (by decide +kernel) rfl) (
    okc (ok_aload_n (j := 0) X (by decide +kernel) rfl rfl) (
    okc (ok_getR (ci := 10) (kf := 0) (idx := 18) (C := RX10) (T := TX10) (N := 4) X rfl (by decide) inX10 (by decide) wf_X10_18 (fun _ _ _ => rfl) (by decide +kernel) rfl) (
    okc (ok_getI (ci := 9) (kf := 0) (idx := 48) (C := RX9) (T := TX9) (N := 8) X rfl (by decide) inX9 (by decide) wf_X10_48 (fun _ _ _ => rfl) (by decide +kernel) rfl) (
    okc (ok_cge (off := 57) X (by decide +kernel) (by decide) rfl) (
    okc (ok_iload_n (j := 2) X (by decide +kernel) rfl rfl) (
    okc (ok_iload X (by decide +kernel) rfl) (
    okc (ok_iadd X (by decide +kernel) rfl) (
    okc (ok_aload_n (j := 0) X (by decide +kernel) rfl rfl) (
    okc (ok_getR (ci := 10) (kf := 0) (idx := 18) (C := RX10) (T := TX10) (N := 4) X rfl (by decide) inX10 (by decide) wf_X10_18 (fun _ _ _ => rfl) (by decide +kernel) rfl) (
    okc (ok_getI (ci := 9) (kf := 0) (idx := 48) (C := RX9) (T := TX9) (N := 8) X rfl (by decide) inX9 (by decide) wf_X10_48 (fun _ _ _ => rfl) (by decide +kernel) rfl) (
    okc (ok_cge (off := 10) X (by decide +kernel) (by decide) rfl) (
    okc (ok_iload_n (j := 2) X (by decide +kernel) rfl rfl) (
    okc (ok_iload X (by decide +kernel) rfl) (
    okc (ok_iadd X (by decide +kernel) rfl) (
    okc (ok_goto (off := 15) X (by decide +kernel) (by decide)) (
    okc (ok_iload_n (j := 2) X (by decide +kernel) rfl rfl) (
    okc (ok_iload X (by decide +kernel) rfl) (
    okc (ok_iadd X (by decide +kernel) rfl) (
    okc (ok_aload_n (j := 0) X (by decide +kernel) rfl rfl) (
    okc (ok_getR (ci := 10) (kf := 0) (idx := 18) (C := RX10) (T := TX10) (N := 4) X rfl (by decide) inX10 (by decide) wf_X10_18 (fun _ _ _ => rfl) (by decide +kernel) rfl) (
    okc (ok_getI (ci := 9) (kf := 0) (idx := 48) (C := RX9) (T := TX9) (N := 8) X rfl (by decide) inX9 (by decide) wf_X10_48 (fun _ _ _ => rfl) (by decide +kernel) rfl) (
    okc (ok_isub X (by decide +kernel) rfl) (
    okc (ok_istore X (by decide +kernel) rfl) (
    okc (ok_aload_n (j := 1) X (by decide +kernel) rfl rfl) (
    okc (ok_iload X (by decide +kernel) rfl) (
    okc (ok_iload_n (j := 3) X (by decide +kernel) rfl rfl) (
    okc (ok_callS (Y := (yX10_catches, cX10_catches, 3, (some .boolean))) X hcal opsS_n md_X10_catches wc_X10_catches wl_X10_85 wi_X10 ws_X10_catches (by decide +kernel) (hRm 3 (by decide)) (by decide +kernel) rfl) (
    okc (ok_ifeq (off := 6) X (by decide +kernel) (by decide) rfl) (
    okc (ok_iload X (by decide +kernel) rfl) (
    okc (ok_iret hret (by decide +kernel)) (
    okc (ok_iinc (n := 1) X (by decide +kernel) rfl rfl) (
    okc (ok_goto (off := -63) X (by decide +kernel) (by decide)) (
    okc (ok_aload_n (j := 0) X (by decide +kernel) rfl rfl) (
    okc (ok_getR (ci := 10) (kf := 0) (idx := 18) (C := RX10) (T := TX10) (N := 4) X rfl (by decide) inX10 (by decide) wf_X10_18 (fun _ _ _ => rfl) (by decide +kernel) rfl) (
    okc (ok_getR (ci := 9) (kf := 5) (idx := 89) (C := RX9) (T := TX9) (N := 8) X rfl (by decide) inX9 (by decide) wf_X10_89 (fun _ _ _ => rfl) (by decide +kernel) rfl) (
    okc (ok_iload_n (j := 3) X (by decide +kernel) rfl rfl) (
    okc (ok_iald X (by decide +kernel) rfl) (
    okc (ok_istore X (by decide +kernel) rfl) (
    okc (ok_iload X (by decide +kernel) rfl) (
    okc (ok_iload_n (j := 3) X (by decide +kernel) rfl rfl) (
    okc (ok_ceq (off := 15) X (by decide +kernel) (by decide) rfl) (
    okc (ok_aload_n (j := 0) X (by decide +kernel) rfl rfl) (
    okc (ok_getR (ci := 10) (kf := 0) (idx := 18) (C := RX10) (T := TX10) (N := 4) X rfl (by decide) inX10 (by decide) wf_X10_18 (fun _ _ _ => rfl) (by decide +kernel) rfl) (
    okc (ok_iload X (by decide +kernel) rfl) (
    okc (ok_callV (ci := 9) (C := RX9) (T := TX9) (N := 8) (Y := (yX9_hasPlace, cX9_hasPlace, 2, (some .boolean))) X hcal opsS_n md_X9_hasPlace rfl (by decide) rfl wc_X9_hasPlace wl_X10_92 wi_X9 wm_X9_hasPlace wv_X9_hasPlace (by decide +kernel) (hRm 2 (by decide)) (by decide +kernel) rfl) (
    okc (ok_ifne (off := 7) X (by decide +kernel) (by decide) rfl) (
    okc (ok_iconst (n := -1) X (by decide +kernel) rfl rfl) (
    okc (ok_iload_n (j := 3) X (by decide +kernel) rfl rfl) (
    okc (ok_isub X (by decide +kernel) rfl) (
    okc (ok_iret hret (by decide +kernel)) (
    okc (ok_iconst (n := 0) X (by decide +kernel) rfl rfl) (
    okc (ok_istore X (by decide +kernel) rfl) (
    okc (ok_iload X (by decide +kernel) rfl) (
    okc (ok_aload_n (j := 0) X (by decide +kernel) rfl rfl) (
    okc (ok_getR (ci := 10) (kf := 0) (idx := 18) (C := RX10) (T := TX10) (N := 4) X rfl (by decide) inX10 (by decide) wf_X10_18 (fun _ _ _ => rfl) (by decide +kernel) rfl) (
    okc (ok_getI (ci := 9) (kf := 0) (idx := 48) (C := RX9) (T := TX9) (N := 8) X rfl (by decide) inX9 (by decide) wf_X10_48 (fun _ _ _ => rfl) (by decide +kernel) rfl) (
    okc (ok_cge (off := 23) X (by decide +kernel) (by decide) rfl) (
    okc (ok_aload_n (j := 1) X (by decide +kernel) rfl rfl) (
    okc (ok_iload X (by decide +kernel) rfl) (
    okc (ok_iload X (by decide +kernel) rfl) (
    okc (ok_callS (Y := (yX10_catches, cX10_catches, 3, (some .boolean))) X hcal opsS_n md_X10_catches wc_X10_catches wl_X10_85 wi_X10 ws_X10_catches (by decide +kernel) (hRm 3 (by decide)) (by decide +kernel) rfl) (
    okc (ok_ifeq (off := 6) X (by decide +kernel) (by decide) rfl) (
    okc (ok_iload X (by decide +kernel) rfl) (
    okc (ok_iret hret (by decide +kernel)) (
    okc (ok_iinc (n := 1) X (by decide +kernel) rfl rfl) (
    okc (ok_goto (off := -29) X (by decide +kernel) (by decide)) (
    okc (ok_iconst (n := -1) X (by decide +kernel) rfl rfl) (
    okc (ok_iload X (by decide +kernel) rfl) (
    okc (ok_isub X (by decide +kernel) rfl) (
    okc (ok_iret hret (by decide +kernel)) (
    okn))))))))))))))))))))))))))))))))))))))))))))))))))))))))))))))))))))))))))))))
noncomputable def es_X10_landing  : List (Nat × En) := [(98, en_X10_catches), (78, en_X9_hasPlace)]
noncomputable def ka_X10_landing_112 (d : Nat)  (n : Nat) : Kn SS (Int32 × SS) := fun pc ls st s => bif Nat.beq pc 112 then (match ls, st with
    | [some y0, some y1, _, _, some (.int x4), some (.int x5)], [] => (gd (veq y0 (.ref 29)) (gd (veq y1 (.ref d)) (F_X10_landing_112 d n x4 x5 s)))
    | _, _ => none) else (none)
set_option maxRecDepth 100000 in
set_option maxHeartbeats 4000000 in
theorem eq_X10_landing_112 (d : Nat)  (hd : (Nat.beq d 7 || Nat.beq d 30 || Nat.beq d 35) = true) (n : Nat) (x4 : Int32) (x5 : Int32) (s : SS) : ex (tb_X10_landing (calE (es_X10_landing))) rI [10, 112] (ka_X10_landing_112 d  n) 80 112 [some (.ref 29), some (.ref d), none, none, some (.int x4), some (.int x5)] [] s = F_X10_landing_112 d  (n + 1) x4 x5 s := by
  rcases beq3 hd with rfl | rfl | rfl <;> rfl
noncomputable def ka_X10_landing_10 (d : Nat)  (n : Nat) : Kn SS (Int32 × SS) := fun pc ls st s => bif Nat.beq pc 10 then (match ls, st with
    | [some y0, some y1, some (.int x2), some (.int x3), some (.int x4), _], [] => (gd (veq y0 (.ref 29)) (gd (veq y1 (.ref d)) (F_X10_landing_10 d n x2 x3 x4 s)))
    | _, _ => none) else (bif Nat.beq pc 112 then (match ls, st with
    | [some y0, some y1, _, _, some (.int x4), some (.int x5)], [] => (gd (veq y0 (.ref 29)) (gd (veq y1 (.ref d)) (F_X10_landing_112 d fuel0 x4 x5 s)))
    | _, _ => none) else (none))
set_option maxRecDepth 100000 in
set_option maxHeartbeats 4000000 in
theorem eq_X10_landing_10 (d : Nat)  (hd : (Nat.beq d 7 || Nat.beq d 30 || Nat.beq d 35) = true) (n : Nat) (x2 : Int32) (x3 : Int32) (x4 : Int32) (s : SS) : ex (tb_X10_landing (calE (es_X10_landing))) rI [10, 112] (ka_X10_landing_10 d  n) 80 10 [some (.ref 29), some (.ref d), some (.int x2), some (.int x3), some (.int x4), none] [] s = F_X10_landing_10 d  (n + 1) x2 x3 x4 s := by
  rcases beq3 hd with rfl | rfl | rfl <;> rfl
set_option maxRecDepth 100000 in
set_option maxHeartbeats 4000000 in
theorem gd_X10_landing_112 {ad0 : Nat → Nat} {G : Gm} {A : Nat → Prop} {p : Program} {l : Launch} {e : Env} {R : Room} {s0 : State} {m : MethodId} {args : Array Value} {below : List Frame} {meth : Method} {c : Code} {Q : State → Prop} {r : (Int32 × SS)} {d : Nat}  (hT : ∀ q ∈ tb_X10_landing (calE (es_X10_landing)), OKi G A 6 113 6344 ad0 p l e R s0 m args below meth c Q opsS rI r q.1 q.2)  (hd : (Nat.beq d 7 || Nat.beq d 30 || Nat.beq d 35) = true) : ∀ (n : Nat) (x4 : Int32) (x5 : Int32) (s : SS), F_X10_landing_112 d  n x4 x5 s = some r → Gd G A 6 113 6344 ad0 p l e R s0 m args below meth c Q opsS 112 [some (.ref 29), some (.ref d), none, none, some (.int x4), some (.int x5)] [] s := by
  intro n
  induction n with
  | zero =>
    intro x4 x5 s hh
    exact absurd (show (none : Option (Int32 × SS)) = some r from hh) (by simp)
  | succ n ih =>
    intro x4 x5 s hh
    rw [← eq_X10_landing_112 d  hd n x4 x5 s] at hh
    refine ex_good hT (fun pc' ls' st' x' hh => ?_) 80 112 _ [] s hh
    unfold ka_X10_landing_112 at hh
    cases hb : Nat.beq pc' 112 with
    | true =>
      rw [hb] at hh
      have e9 := beq1 hb
      subst e9
      simp only [cond_true] at hh
      split at hh
      · obtain ⟨g0, hh1⟩ := gd_some hh
        have e0 := veq_of g0
        subst e0
        obtain ⟨g1, hh2⟩ := gd_some hh1
        have e1 := veq_of g1
        subst e1
        exact Gd.wk (ih _ _ _ hh2) (Lle.eq (Lle.eq (Lle.no (Lle.no (Lle.eq (Lle.eq Lle.nil))))))
      · cases hh
    | false =>
      rw [hb] at hh
      simp only [cond_false] at hh
      cases hh

set_option maxRecDepth 100000 in
set_option maxHeartbeats 4000000 in
theorem gd_X10_landing_10 {ad0 : Nat → Nat} {G : Gm} {A : Nat → Prop} {p : Program} {l : Launch} {e : Env} {R : Room} {s0 : State} {m : MethodId} {args : Array Value} {below : List Frame} {meth : Method} {c : Code} {Q : State → Prop} {r : (Int32 × SS)} {d : Nat}  (hT : ∀ q ∈ tb_X10_landing (calE (es_X10_landing)), OKi G A 6 113 6344 ad0 p l e R s0 m args below meth c Q opsS rI r q.1 q.2)  (hd : (Nat.beq d 7 || Nat.beq d 30 || Nat.beq d 35) = true) : ∀ (n : Nat) (x2 : Int32) (x3 : Int32) (x4 : Int32) (s : SS), F_X10_landing_10 d  n x2 x3 x4 s = some r → Gd G A 6 113 6344 ad0 p l e R s0 m args below meth c Q opsS 10 [some (.ref 29), some (.ref d), some (.int x2), some (.int x3), some (.int x4), none] [] s := by
  intro n
  induction n with
  | zero =>
    intro x2 x3 x4 s hh
    exact absurd (show (none : Option (Int32 × SS)) = some r from hh) (by simp)
  | succ n ih =>
    intro x2 x3 x4 s hh
    rw [← eq_X10_landing_10 d  hd n x2 x3 x4 s] at hh
    refine ex_good hT (fun pc' ls' st' x' hh => ?_) 80 10 _ [] s hh
    unfold ka_X10_landing_10 at hh
    cases hb : Nat.beq pc' 10 with
    | true =>
      rw [hb] at hh
      have e9 := beq1 hb
      subst e9
      simp only [cond_true] at hh
      split at hh
      · obtain ⟨g0, hh1⟩ := gd_some hh
        have e0 := veq_of g0
        subst e0
        obtain ⟨g1, hh2⟩ := gd_some hh1
        have e1 := veq_of g1
        subst e1
        exact Gd.wk (ih _ _ _ _ hh2) (Lle.eq (Lle.eq (Lle.eq (Lle.eq (Lle.eq (Lle.no Lle.nil))))))
      · cases hh
    | false =>
      rw [hb] at hh
      simp only [cond_false] at hh
      cases hb : Nat.beq pc' 112 with
      | true =>
        rw [hb] at hh
        have e9 := beq1 hb
        subst e9
        simp only [cond_true] at hh
        split at hh
        · obtain ⟨g0, hh1⟩ := gd_some hh
          have e0 := veq_of g0
          subst e0
          obtain ⟨g1, hh2⟩ := gd_some hh1
          have e1 := veq_of g1
          subst e1
          exact Gd.wk (gd_X10_landing_112 hT  hd _ _ _ _ hh2) (Lle.eq (Lle.eq (Lle.no (Lle.no (Lle.eq (Lle.eq Lle.nil))))))
        · cases hh
      | false =>
        rw [hb] at hh
        simp only [cond_false] at hh
        cases hh

noncomputable def ka_X10_landing (d : Nat) : Kn SS (Int32 × SS) := fun pc ls st s => bif Nat.beq pc 10 then (match ls, st with
    | [some y0, some y1, some (.int x2), some (.int x3), some (.int x4), _], [] => (gd (veq y0 (.ref 29)) (gd (veq y1 (.ref d)) (F_X10_landing_10 d fuel0 x2 x3 x4 s)))
    | _, _ => none) else (none)
set_option maxRecDepth 100000 in
set_option maxHeartbeats 4000000 in
theorem eq_X10_landing (d : Nat) (hd : (Nat.beq d 7 || Nat.beq d 30 || Nat.beq d 35) = true) (a0 : Int32) (s : SS) : ex (tb_X10_landing (calE (es_X10_landing))) rI [10, 112] (ka_X10_landing d) 80 0 [some (.ref 29), some (.ref d), some (.int a0), none, none, none] [] s = f_X10_landing d a0 s := by
  rcases beq3 hd with rfl | rfl | rfl <;> rfl
set_option maxRecDepth 100000 in
set_option maxHeartbeats 4000000 in
theorem run_X10_landing {l : Launch} {G : Gm} {d : Nat} (hd : (Nat.beq d 7 || Nat.beq d 30 || Nat.beq d 35) = true) (a0 : Int32) (s : SS) (q : (Int32 × SS)) (h : f_X10_landing d a0 s = some q) (D' : Nat) (hD : 1 ≤ D') : RunsM l G (D' + 1) (md 97) (embS s) [.ref 29, .ref d, .int a0] (some (.int q.1)) (embS q.2) := by
  rw [md_X10_landing]
  refine runs_I (plainFor_of_name (by decide +kernel)) (Nat.le_of_ble_eq_true rfl) rfl ?_
  intro A p e R s0 m args below meth c Q ad0 hR X hret
  have X : Cx G A RX10 cX10_landing 6 p s0 m args c := X
  have hT := tk_X10_landing X (calE_ok (es := es_X10_landing) (enc (en_X10_catches_ok _ (by omega)) (enc (en_X9_hasPlace_ok _ (by omega)) (enn)))) (rmD rfl hR) hret
  rw [← eq_X10_landing d hd a0 s] at h
  refine ex_good hT (fun pc' ls' st' x' hh => ?_) 80 0 _ [] s h
  unfold ka_X10_landing at hh
  cases hb : Nat.beq pc' 10 with
  | true =>
    rw [hb] at hh
    have e9 := beq1 hb
    subst e9
    simp only [cond_true] at hh
    split at hh
    · obtain ⟨g0, hh1⟩ := gd_some hh
      have e0 := veq_of g0
      subst e0
      obtain ⟨g1, hh2⟩ := gd_some hh1
      have e1 := veq_of g1
      subst e1
      exact Gd.wk (gd_X10_landing_10 hT hd _ _ _ _ _ hh2) (Lle.eq (Lle.eq (Lle.eq (Lle.eq (Lle.eq (Lle.no Lle.nil))))))
    · cases hh
  | false =>
    rw [hb] at hh
    simp only [cond_false] at hh
    cases hh

noncomputable def en_X10_landing  : En := fun _ av s k => match av with
  | [.ref r0, .ref d, .int a0] => (gd (Nat.beq r0 29) (gd (Nat.beq d 7 || Nat.beq d 30 || Nat.beq d 35) (bI (f_X10_landing d a0 s) k)))
  | _ => none
set_option maxRecDepth 100000 in
set_option maxHeartbeats 4000000 in
theorem en_X10_landing_ok {l : Launch} {G : Gm} (D : Nat) (hD : 2 ≤ D) : enOK l G D 97 en_X10_landing := by
  intro ρ av x k r h
  unfold en_X10_landing at h
  split at h
  · obtain ⟨g0, h⟩ := gd_some h
    obtain ⟨g1, h⟩ := gd_some h
    obtain ⟨q, h1, h2⟩ := bind_of h
    have e0 := beq1 g0
    subst e0
    obtain ⟨D', rfl⟩ : ∃ D', D = D' + 1 := ⟨D - 1, by omega⟩
    exact ⟨_, _, h2, run_X10_landing g1 _ _ _ h1 D' (by omega)⟩
  · cases h

/-! HatRank$Wind shiftHat -/
noncomputable def tb_X10_shiftHat (cal : Cal SS) : List (Nat × Ins SS) := [(0, e_aload 1 1), (1, e_getR opsS 2 0 4), (4, e_iload 2 5), (5, e_dup2 6), (6, e_ald opsS 100 7), (7, e_iload 4 9), (9, e_bin aSub 10), (10, e_ast opsS 100 (fun v => v) 11), (11, e_iload 3 12), (12, e_iflt 35 15), (15, e_iload 3 16), (16, e_iconst (6) 18), (18, e_cge 35 21), (21, e_aload 1 22), (22, e_getR opsS 2 0 25), (25, e_iload 3 26), (26, e_dup2 27), (27, e_ald opsS 100 28), (28, e_iload 4 30), (30, e_bin aAdd 31), (31, e_ast opsS 100 (fun v => v) 32), (32, e_goto 60), (35, e_iload 3 36), (36, e_ifge 60 39), (39, e_iconst (-1) 40), (40, e_iload 3 41), (41, e_bin aSub 42), (42, e_iconst (7) 44), (44, e_cge 60 47), (47, e_aload 1 48), (48, e_getR opsS 2 2 51), (51, e_iconst (-1) 52), (52, e_iload 3 53), (53, e_bin aSub 54), (54, e_dup2 55), (55, e_ald opsS 100 56), (56, e_iload 4 58), (58, e_bin aAdd 59), (59, e_ast opsS 100 (fun v => v) 60), (60, e_vret)]
set_option maxRecDepth 100000 in
set_option maxHeartbeats 4000000 in
theorem tk_X10_shiftHat {ad0 : Nat → Nat} {G : Gm} {A : Nat → Prop} {p : Program} {l : Launch} {e : Env} {R : Room} {s0 : State} {m : MethodId} {args : Array Value} {below : List Frame} {meth : Method} {c : Code} {Q : State → Prop} {ρ : Type} {ret : Option Value → SS → Option ρ} {r : ρ} (X : Cx G A RX10 cX10_shiftHat 5 p s0 m args c) {D' : Nat} {cal : Cal SS} (hcal : calOK l G opsS D' cal) (hRm : ∀ k, k ≤ 21 → D' + 1 ≤ R.frames ∧ 8 + (k + 11) + 40 * D' ≤ R.locals) (hret : RetK G A cX10_shiftHat 113 6344 ad0 p l e R s0 m args below meth c Q opsS ret r .return_ okV) : ∀ q ∈ tb_X10_shiftHat cal, OKi G A 5 113 6344 ad0 p l e R s0 m args below meth c Q opsS ret r q.1 q.2 :=
    okc (ok_aload_n (j := 1) X (by decide +kernel) rfl rfl) (
    okc (ok_getR (ci := 2) (kf := 0) (idx := 61) (C := RX2) (T := TX2) (N := 4) X rfl (by decide) inX2 (by decide) wf_X10_61 (fun _ _ _ => rfl) (by decide +kernel) rfl) (
    okc (ok_iload_n (j := 2) X (by decide +kernel) rfl rfl) (
    okc (ok_dup2 X (by decide +kernel) rfl) (
    okc (ok_iald X (by decide +kernel) rfl) (
    okc (ok_iload X (by decide +kernel) rfl) (
    okc (ok_isub X (by decide +kernel) rfl) (
    okc (ok_iast X opsS_ok (by decide +kernel) rfl) (
    okc (ok_iload_n (j := 3) X (by decide +kernel) rfl rfl) (
    okc (ok_iflt (off := 23) X (by decide +kernel) (by decide) rfl) (
    okc (ok_iload_n (j := 3) X (by decide +kernel) rfl rfl) (
    okc (ok_bipush (n := 6) X (by decide +kernel) rfl rfl) (
    okc (ok_cge (off := 17) X (by decide +kernel) (by decide) rfl) (
    okc (ok_aload_n (j := 1) X (by decide +kernel) rfl rfl) (
    okc (ok_getR (ci := 2) (kf := 0) (idx := 61) (C := RX2) (T := TX2) (N := 4) X rfl (by decide) inX2 (by decide) wf_X10_61 (fun _ _ _ => rfl) (by decide +kernel) rfl) (
    okc (ok_iload_n (j := 3) X (by decide +kernel) rfl rfl) (
    okc (ok_dup2 X (by decide +kernel) rfl) (
    okc (ok_iald X (by decide +kernel) rfl) (
    okc (ok_iload X (by decide +kernel) rfl) (
    okc (ok_iadd X (by decide +kernel) rfl) (
    okc (ok_iast X opsS_ok (by decide +kernel) rfl) (
    okc (ok_goto (off := 28) X (by decide +kernel) (by decide)) (
    okc (ok_iload_n (j := 3) X (by decide +kernel) rfl rfl) (
    okc (ok_ifge (off := 24) X (by decide +kernel) (by decide) rfl) (
    okc (ok_iconst (n := -1) X (by decide +kernel) rfl rfl) (
    okc (ok_iload_n (j := 3) X (by decide +kernel) rfl rfl) (
    okc (ok_isub X (by decide +kernel) rfl) (
    okc (ok_bipush (n := 7) X (by decide +kernel) rfl rfl) (
    okc (ok_cge (off := 16) X (by decide +kernel) (by decide) rfl) (
    okc (ok_aload_n (j := 1) X (by decide +kernel) rfl rfl) (
    okc (ok_getR (ci := 2) (kf := 2) (idx := 75) (C := RX2) (T := TX2) (N := 4) X rfl (by decide) inX2 (by decide) wf_X10_75 (fun _ _ _ => rfl) (by decide +kernel) rfl) (
    okc (ok_iconst (n := -1) X (by decide +kernel) rfl rfl) (
    okc (ok_iload_n (j := 3) X (by decide +kernel) rfl rfl) (
    okc (ok_isub X (by decide +kernel) rfl) (
    okc (ok_dup2 X (by decide +kernel) rfl) (
    okc (ok_iald X (by decide +kernel) rfl) (
    okc (ok_iload X (by decide +kernel) rfl) (
    okc (ok_iadd X (by decide +kernel) rfl) (
    okc (ok_iast X opsS_ok (by decide +kernel) rfl) (
    okc (ok_vret hret (by decide +kernel)) (
    okn))))))))))))))))))))))))))))))))))))))))
noncomputable def es_X10_shiftHat  : List (Nat × En) := []
set_option maxRecDepth 100000 in
set_option maxHeartbeats 4000000 in
theorem eq_X10_shiftHat (d : Nat) (hd : (Nat.beq d 7 || Nat.beq d 30 || Nat.beq d 35) = true) (a0 : Int32) (a1 : Int32) (a2 : Int32) (s : SS) : ex (tb_X10_shiftHat (calE (es_X10_shiftHat))) rV [] (fun _ _ _ _ => none) 42 0 [some (.ref 29), some (.ref d), some (.int a0), some (.int a1), some (.int a2)] [] s = f_X10_shiftHat d a0 a1 a2 s := by
  rcases beq3 hd with rfl | rfl | rfl <;> rfl
set_option maxRecDepth 100000 in
set_option maxHeartbeats 4000000 in
theorem run_X10_shiftHat {l : Launch} {G : Gm} {d : Nat} (hd : (Nat.beq d 7 || Nat.beq d 30 || Nat.beq d 35) = true) (a0 : Int32) (a1 : Int32) (a2 : Int32) (s : SS) (q : SS) (h : f_X10_shiftHat d a0 a1 a2 s = some q) (D' : Nat) (hD : 0 ≤ D') : RunsM l G (D' + 1) (md 96) (embS s) [.ref 29, .ref d, .int a0, .int a1, .int a2] none (embS q) := by
  rw [md_X10_shiftHat]
  refine runs_V (plainFor_of_name (by decide +kernel)) (Nat.le_of_ble_eq_true rfl) rfl ?_
  intro A p e R s0 m args below meth c Q ad0 hR X hret
  have X : Cx G A RX10 cX10_shiftHat 5 p s0 m args c := X
  have hT := tk_X10_shiftHat X (calE_ok (es := es_X10_shiftHat) (enn)) (rmD rfl hR) hret
  rw [← eq_X10_shiftHat d hd a0 a1 a2 s] at h
  refine ex_good hT (fun pc' ls' st' x' hh => ?_) 42 0 _ [] s h
  cases hh

noncomputable def en_X10_shiftHat  : En := fun _ av s k => match av with
  | [.ref r0, .ref d, .int a0, .int a1, .int a2] => (gd (Nat.beq r0 29) (gd (Nat.beq d 7 || Nat.beq d 30 || Nat.beq d 35) (bV (f_X10_shiftHat d a0 a1 a2 s) k)))
  | _ => none
set_option maxRecDepth 100000 in
set_option maxHeartbeats 4000000 in
theorem en_X10_shiftHat_ok {l : Launch} {G : Gm} (D : Nat) (hD : 1 ≤ D) : enOK l G D 96 en_X10_shiftHat := by
  intro ρ av x k r h
  unfold en_X10_shiftHat at h
  split at h
  · obtain ⟨g0, h⟩ := gd_some h
    obtain ⟨g1, h⟩ := gd_some h
    obtain ⟨q, h1, h2⟩ := bind_of h
    have e0 := beq1 g0
    subst e0
    obtain ⟨D', rfl⟩ : ∃ D', D = D' + 1 := ⟨D - 1, by omega⟩
    exact ⟨_, _, h2, run_X10_shiftHat g1 _ _ _ _ _ h1 D' (by omega)⟩
  · cases h

/-! HatRank$Wind fall -/
noncomputable def tb_X10_fall (cal : Cal SS) : List (Nat × Ins SS) := [(0, e_aload 0 1), (1, e_aload 1 2), (2, e_iload 2 3), (3, e_callV opsS cal 97 2 10 6), (6, e_istore 3 7), (7, e_aload 0 8), (8, e_aload 1 9), (9, e_iload 2 10), (10, e_iload 3 11), (11, e_iconst (1) 12), (12, e_callV opsS cal 96 4 10 15), (15, e_iload 3 16), (16, e_iret)]
set_option maxRecDepth 100000 in
set_option maxHeartbeats 4000000 in
theorem tk_X10_fall {ad0 : Nat → Nat} {G : Gm} {A : Nat → Prop} {p : Program} {l : Launch} {e : Env} {R : Room} {s0 : State} {m : MethodId} {args : Array Value} {below : List Frame} {meth : Method} {c : Code} {Q : State → Prop} {ρ : Type} {ret : Option Value → SS → Option ρ} {r : ρ} (X : Cx G A RX10 cX10_fall 4 p s0 m args c) {D' : Nat} {cal : Cal SS} (hcal : calOK l G opsS D' cal) (hRm : ∀ k, k ≤ 21 → D' + 1 ≤ R.frames ∧ 8 + (k + 11) + 40 * D' ≤ R.locals) (hret : RetK G A cX10_fall 113 6344 ad0 p l e R s0 m args below meth c Q opsS ret r .ireturn okI) : ∀ q ∈ tb_X10_fall cal, OKi G A 4 113 6344 ad0 p l e R s0 m args below meth c Q opsS ret r q.1 q.2 :=
    okc (ok_aload_n (j := 0) X (by decide +kernel) rfl rfl) (
    okc (ok_aload_n (j := 1) X (by decide +kernel) rfl rfl) (
    okc (ok_iload_n (j := 2) X (by decide +kernel) rfl rfl) (
    okc (ok_callV (ci := 10) (C := RX10) (T := TX10) (N := 4) (Y := (yX10_landing, cX10_landing, 6, (some .int))) X hcal opsS_n md_X10_landing rfl (by decide) rfl wc_X10_landing wl_X10_78 wi_X10 wm_X10_landing wv_X10_landing (by decide +kernel) (hRm 6 (by decide)) (by decide +kernel) rfl) (
    okc (ok_istore_n (j := 3) X (by decide +kernel) rfl rfl) (
    okc (ok_aload_n (j := 0) X (by decide +kernel) rfl rfl) (
    okc (ok_aload_n (j := 1) X (by decide +kernel) rfl rfl) (
    okc (ok_iload_n (j := 2) X (by decide +kernel) rfl rfl) (
    okc (ok_iload_n (j := 3) X (by decide +kernel) rfl rfl) (
    okc (ok_iconst (n := 1) X (by decide +kernel) rfl rfl) (
    okc (ok_callV (ci := 10) (C := RX10) (T := TX10) (N := 4) (Y := (yX10_shiftHat, cX10_shiftHat, 5, none)) X hcal opsS_n md_X10_shiftHat rfl (by decide) rfl wc_X10_shiftHat wl_X10_81 wi_X10 wm_X10_shiftHat wv_X10_shiftHat (by decide +kernel) (hRm 5 (by decide)) (by decide +kernel) rfl) (
    okc (ok_iload_n (j := 3) X (by decide +kernel) rfl rfl) (
    okc (ok_iret hret (by decide +kernel)) (
    okn)))))))))))))
noncomputable def es_X10_fall  : List (Nat × En) := [(97, en_X10_landing), (96, en_X10_shiftHat)]
set_option maxRecDepth 100000 in
set_option maxHeartbeats 4000000 in
theorem eq_X10_fall (d : Nat) (hd : (Nat.beq d 7 || Nat.beq d 30 || Nat.beq d 35) = true) (a0 : Int32) (s : SS) : ex (tb_X10_fall (calE (es_X10_fall))) rI [] (fun _ _ _ _ => none) 15 0 [some (.ref 29), some (.ref d), some (.int a0), none] [] s = f_X10_fall d a0 s := by
  rcases beq3 hd with rfl | rfl | rfl <;> rfl
set_option maxRecDepth 100000 in
set_option maxHeartbeats 4000000 in
theorem run_X10_fall {l : Launch} {G : Gm} {d : Nat} (hd : (Nat.beq d 7 || Nat.beq d 30 || Nat.beq d 35) = true) (a0 : Int32) (s : SS) (q : (Int32 × SS)) (h : f_X10_fall d a0 s = some q) (D' : Nat) (hD : 2 ≤ D') : RunsM l G (D' + 1) (md 94) (embS s) [.ref 29, .ref d, .int a0] (some (.int q.1)) (embS q.2) := by
  rw [md_X10_fall]
  refine runs_I (plainFor_of_name (by decide +kernel)) (Nat.le_of_ble_eq_true rfl) rfl ?_
  intro A p e R s0 m args below meth c Q ad0 hR X hret
  have X : Cx G A RX10 cX10_fall 4 p s0 m args c := X
  have hT := tk_X10_fall X (calE_ok (es := es_X10_fall) (enc (en_X10_landing_ok _ (by omega)) (enc (en_X10_shiftHat_ok _ (by omega)) (enn)))) (rmD rfl hR) hret
  rw [← eq_X10_fall d hd a0 s] at h
  refine ex_good hT (fun pc' ls' st' x' hh => ?_) 15 0 _ [] s h
  cases hh

noncomputable def en_X10_fall  : En := fun _ av s k => match av with
  | [.ref r0, .ref d, .int a0] => (gd (Nat.beq r0 29) (gd (Nat.beq d 7 || Nat.beq d 30 || Nat.beq d 35) (bI (f_X10_fall d a0 s) k)))
  | _ => none
set_option maxRecDepth 100000 in
set_option maxHeartbeats 4000000 in
theorem en_X10_fall_ok {l : Launch} {G : Gm} (D : Nat) (hD : 3 ≤ D) : enOK l G D 94 en_X10_fall := by
  intro ρ av x k r h
  unfold en_X10_fall at h
  split at h
  · obtain ⟨g0, h⟩ := gd_some h
    obtain ⟨g1, h⟩ := gd_some h
    obtain ⟨q, h1, h2⟩ := bind_of h
    have e0 := beq1 g0
    subst e0
    obtain ⟨D', rfl⟩ : ∃ D', D = D' + 1 := ⟨D - 1, by omega⟩
    exact ⟨_, _, h2, run_X10_fall g1 _ _ _ h1 D' (by omega)⟩
  · cases h

/-! HatRank$Wind unfall -/
noncomputable def tb_X10_unfall (cal : Cal SS) : List (Nat × Ins SS) := [(0, e_aload 0 1), (1, e_aload 1 2), (2, e_iload 2 3), (3, e_iload 3 4), (4, e_iconst (-1) 5), (5, e_callV opsS cal 96 4 10 8), (8, e_vret)]
set_option maxRecDepth 100000 in
set_option maxHeartbeats 4000000 in
theorem tk_X10_unfall {ad0 : Nat → Nat} {G : Gm} {A : Nat → Prop} {p : Program} {l : Launch} {e : Env} {R : Room} {s0 : State} {m : MethodId} {args : Array Value} {below : List Frame} {meth : Method} {c : Code} {Q : State → Prop} {ρ : Type} {ret : Option Value → SS → Option ρ} {r : ρ} (X : Cx G A RX10 cX10_unfall 4 p s0 m args c) {D' : Nat} {cal : Cal SS} (hcal : calOK l G opsS D' cal) (hRm : ∀ k, k ≤ 21 → D' + 1 ≤ R.frames ∧ 8 + (k + 11) + 40 * D' ≤ R.locals) (hret : RetK G A cX10_unfall 113 6344 ad0 p l e R s0 m args below meth c Q opsS ret r .return_ okV) : ∀ q ∈ tb_X10_unfall cal, OKi G A 4 113 6344 ad0 p l e R s0 m args below meth c Q opsS ret r q.1 q.2 :=
    okc (ok_aload_n (j := 0) X (by decide +kernel) rfl rfl) (
    okc (ok_aload_n (j := 1) X (by decide +kernel) rfl rfl) (
    okc (ok_iload_n (j := 2) X (by decide +kernel) rfl rfl) (
    okc (ok_iload_n (j := 3) X (by decide +kernel) rfl rfl) (
    okc (ok_iconst (n := -1) X (by decide +kernel) rfl rfl) (
    okc (ok_callV (ci := 10) (C := RX10) (T := TX10) (N := 4) (Y := (yX10_shiftHat, cX10_shiftHat, 5, none)) X hcal opsS_n md_X10_shiftHat rfl (by decide) rfl wc_X10_shiftHat wl_X10_81 wi_X10 wm_X10_shiftHat wv_X10_shiftHat (by decide +kernel) (hRm 5 (by decide)) (by decide +kernel) rfl) (
    okc (ok_vret hret (by decide +kernel)) (
    okn)))))))
noncomputable def es_X10_unfall  : List (Nat × En) := [(96, en_X10_shiftHat)]
set_option maxRecDepth 100000 in
set_option maxHeartbeats 4000000 in
theorem eq_X10_unfall (d : Nat) (hd : (Nat.beq d 35) = true) (a0 : Int32) (a1 : Int32) (s : SS) : ex (tb_X10_unfall (calE (es_X10_unfall))) rV [] (fun _ _ _ _ => none) 9 0 [some (.ref 29), some (.ref d), some (.int a0), some (.int a1)] [] s = f_X10_unfall d a0 a1 s := by
  rcases beq1 hd with rfl <;> rfl
set_option maxRecDepth 100000 in
set_option maxHeartbeats 4000000 in
theorem run_X10_unfall {l : Launch} {G : Gm} {d : Nat} (hd : (Nat.beq d 35) = true) (a0 : Int32) (a1 : Int32) (s : SS) (q : SS) (h : f_X10_unfall d a0 a1 s = some q) (D' : Nat) (hD : 1 ≤ D') : RunsM l G (D' + 1) (md 95) (embS s) [.ref 29, .ref d, .int a0, .int a1] none (embS q) := by
  rw [md_X10_unfall]
  refine runs_V (plainFor_of_name (by decide +kernel)) (Nat.le_of_ble_eq_true rfl) rfl ?_
  intro A p e R s0 m args below meth c Q ad0 hR X hret
  have X : Cx G A RX10 cX10_unfall 4 p s0 m args c := X
  have hT := tk_X10_unfall X (calE_ok (es := es_X10_unfall) (enc (en_X10_shiftHat_ok _ (by omega)) (enn))) (rmD rfl hR) hret
  rw [← eq_X10_unfall d hd a0 a1 s] at h
  refine ex_good hT (fun pc' ls' st' x' hh => ?_) 9 0 _ [] s h
  cases hh

noncomputable def en_X10_unfall  : En := fun _ av s k => match av with
  | [.ref r0, .ref d, .int a0, .int a1] => (gd (Nat.beq r0 29) (gd (Nat.beq d 35) (bV (f_X10_unfall d a0 a1 s) k)))
  | _ => none
set_option maxRecDepth 100000 in
set_option maxHeartbeats 4000000 in
theorem en_X10_unfall_ok {l : Launch} {G : Gm} (D : Nat) (hD : 2 ≤ D) : enOK l G D 95 en_X10_unfall := by
  intro ρ av x k r h
  unfold en_X10_unfall at h
  split at h
  · obtain ⟨g0, h⟩ := gd_some h
    obtain ⟨g1, h⟩ := gd_some h
    obtain ⟨q, h1, h2⟩ := bind_of h
    have e0 := beq1 g0
    subst e0
    obtain ⟨D', rfl⟩ : ∃ D', D = D' + 1 := ⟨D - 1, by omega⟩
    exact ⟨_, _, h2, run_X10_unfall g1 _ _ _ _ h1 D' (by omega)⟩
  · cases h

/-! HatRank$Routes leastAt -/
noncomputable def tb_X6_leastAt (cal : Cal SS) : List (Nat × Ins SS) := [(0, e_iload 1 1), (1, e_iconst (7) 3), (3, e_bin aMul 4), (4, e_iload 2 5), (5, e_bin aAdd 6), (6, e_istore 3 7), (7, e_iload 3 8), (8, e_iflt 29 11), (11, e_iload 3 12), (12, e_aload 0 13), (13, e_getR opsS 6 2 16), (16, e_alen opsS 17), (17, e_cge 29 20), (20, e_aload 0 21), (21, e_getR opsS 6 2 24), (24, e_iload 3 25), (25, e_ald opsS 100 26), (26, e_goto 31), (29, e_iconst (1000000) 31), (31, e_iret)]
set_option maxRecDepth 100000 in
set_option maxHeartbeats 4000000 in
theorem tk_X6_leastAt {ad0 : Nat → Nat} {G : Gm} {A : Nat → Prop} {p : Program} {l : Launch} {e : Env} {R : Room} {s0 : State} {m : MethodId} {args : Array Value} {below : List Frame} {meth : Method} {c : Code} {Q : State → Prop} {ρ : Type} {ret : Option Value → SS → Option ρ} {r : ρ} (X : Cx G A RX6 cX6_leastAt 4 p s0 m args c) {D' : Nat} {cal : Cal SS} (hcal : calOK l G opsS D' cal) (hRm : ∀ k, k ≤ 21 → D' + 1 ≤ R.frames ∧ 8 + (k + 11) + 40 * D' ≤ R.locals) (hret : RetK G A cX6_leastAt 113 6344 ad0 p l e R s0 m args below meth c Q opsS ret r .ireturn okI) : ∀ q ∈ tb_X6_leastAt cal, OKi G A 4 113 6344 ad0 p l e R s0 m args below meth c Q opsS ret r q.1 q.2 :=
    okc (ok_iload_n (j := 1) X (by decide +kernel) rfl rfl) (
    okc (ok_bipush (n := 7) X (by decide +kernel) rfl rfl) (
    okc (ok_imul X (by decide +kernel) rfl) (
    okc (ok_iload_n (j := 2) X (by decide +kernel) rfl rfl) (
    okc (ok_iadd X (by decide +kernel) rfl) (
    okc (ok_istore_n (j := 3) X (by decide +kernel) rfl rfl) (
    okc (ok_iload_n (j := 3) X (by decide +kernel) rfl rfl) (
    okc (ok_iflt (off := 21) X (by decide +kernel) (by decide) rfl) (
    okc (ok_iload_n (j := 3) X (by decide +kernel) rfl rfl) (
    okc (ok_aload_n (j := 0) X (by decide +kernel) rfl rfl) (
    okc (ok_getR (ci := 6) (kf := 2) (idx := 9) (C := RX6) (T := TX6) (N := 3) X rfl (by decide) inX6 (by decide) wf_X6_9 (fun _ _ _ => rfl) (by decide +kernel) rfl) (
    okc (ok_alen X (by decide +kernel) rfl) (
    okc (ok_cge (off := 12) X (by decide +kernel) (by decide) rfl) (
    okc (ok_aload_n (j := 0) X (by decide +kernel) rfl rfl) (
    okc (ok_getR (ci := 6) (kf := 2) (idx := 9) (C := RX6) (T := TX6) (N := 3) X rfl (by decide) inX6 (by decide) wf_X6_9 (fun _ _ _ => rfl) (by decide +kernel) rfl) (
    okc (ok_iload_n (j := 3) X (by decide +kernel) rfl rfl) (
    okc (ok_iald X (by decide +kernel) rfl) (
    okc (ok_goto (off := 5) X (by decide +kernel) (by decide)) (
    okc (ok_ldc (i := 41) X (by decide +kernel) wk_X6_41 rfl) (
    okc (ok_iret hret (by decide +kernel)) (
    okn))))))))))))))))))))
noncomputable def es_X6_leastAt  : List (Nat × En) := []
set_option maxRecDepth 100000 in
set_option maxHeartbeats 4000000 in
theorem eq_X6_leastAt   (a0 : Int32) (a1 : Int32) (s : SS) : ex (tb_X6_leastAt (calE (es_X6_leastAt))) rI [] (fun _ _ _ _ => none) 22 0 [some (.ref 48), some (.int a0), some (.int a1), none] [] s = f_X6_leastAt a0 a1 s := by
  rfl
set_option maxRecDepth 100000 in
set_option maxHeartbeats 4000000 in
theorem run_X6_leastAt {l : Launch} {G : Gm}   (a0 : Int32) (a1 : Int32) (s : SS) (q : (Int32 × SS)) (h : f_X6_leastAt a0 a1 s = some q) (D' : Nat) (hD : 0 ≤ D') : RunsM l G (D' + 1) (md 45) (embS s) [.ref 48, .int a0, .int a1] (some (.int q.1)) (embS q.2) := by
  rw [md_X6_leastAt]
  refine runs_I (plainFor_of_name (by decide +kernel)) (Nat.le_of_ble_eq_true rfl) rfl ?_
  intro A p e R s0 m args below meth c Q ad0 hR X hret
  have X : Cx G A RX6 cX6_leastAt 4 p s0 m args c := X
  have hT := tk_X6_leastAt X (calE_ok (es := es_X6_leastAt) (enn)) (rmD rfl hR) hret
  rw [← eq_X6_leastAt   a0 a1 s] at h
  refine ex_good hT (fun pc' ls' st' x' hh => ?_) 22 0 _ [] s h
  cases hh

noncomputable def en_X6_leastAt  : En := fun _ av s k => match av with
  | [.ref r0, .int a0, .int a1] => (gd (Nat.beq r0 48) (bI (f_X6_leastAt a0 a1 s) k))
  | _ => none
set_option maxRecDepth 100000 in
set_option maxHeartbeats 4000000 in
theorem en_X6_leastAt_ok {l : Launch} {G : Gm} (D : Nat) (hD : 1 ≤ D) : enOK l G D 45 en_X6_leastAt := by
  intro ρ av x k r h
  unfold en_X6_leastAt at h
  split at h
  · obtain ⟨g0, h⟩ := gd_some h
    obtain ⟨q, h1, h2⟩ := bind_of h
    have e0 := beq1 g0
    subst e0
    obtain ⟨D', rfl⟩ : ∃ D', D = D' + 1 := ⟨D - 1, by omega⟩
    exact ⟨_, _, h2, run_X6_leastAt  _ _ _ _ h1 D' (by omega)⟩
  · cases h

/-! HatRank$Routes bestStep -/
noncomputable def tb_X6_bestStep (cal : Cal SS) : List (Nat × Ins SS) := [(0, e_iload 2 1), (1, e_istore 3 2), (2, e_iconst (1000000) 4), (4, e_istore 4 6), (6, e_iconst (0) 7), (7, e_istore 5 9), (9, e_iload 5 11), (11, e_aload 0 12), (12, e_getR opsS 6 0 15), (15, e_getI opsS 9 1 18), (18, e_cge 82 21), (21, e_iload 5 23), (23, e_iload 2 24), (24, e_ceq 40 27), (27, e_aload 0 28), (28, e_getR opsS 6 0 31), (31, e_iload 2 32), (32, e_iload 5 34), (34, e_callV opsS cal 81 2 9 37), (37, e_ifeq 44 40), (40, e_iconst (1) 41), (41, e_goto 45), (44, e_iconst (0) 45), (45, e_istore 6 47), (47, e_iload 6 49), (49, e_ifeq 76 52), (52, e_aload 0 53), (53, e_iload 1 54), (54, e_iload 5 56), (56, e_callV opsS cal 45 2 6 59), (59, e_iload 4 61), (61, e_cge 76 64), (64, e_aload 0 65), (65, e_iload 1 66), (66, e_iload 5 68), (68, e_callV opsS cal 45 2 6 71), (71, e_istore 4 73), (73, e_iload 5 75), (75, e_istore 3 76), (76, e_iinc 5 (1) 79), (79, e_goto 9), (82, e_iload 3 83), (83, e_iret)]
set_option maxRecDepth 100000 in
set_option maxHeartbeats 4000000 in
theorem tk_X6_bestStep {ad0 : Nat → Nat} {G : Gm} {A : Nat → Prop} {p : Program} {l : Launch} {e : Env} {R : Room} {s0 : State} {m : MethodId} {args : Array Value} {below : List Frame} {meth : Method} {c : Code} {Q : State → Prop} {ρ : Type} {ret : Option Value → SS → Option ρ} {r : ρ} (X : Cx G A RX6 cX6_bestStep 7 p s0 m args c) {D' : Nat} {cal : Cal SS} (hcal : calOK l G opsS D' cal) (hRm : ∀ k, k ≤ 21 → D' + 1 ≤ R.frames ∧ 8 + (k + 11) + 40 * D' ≤ R.locals) (hret : RetK G A cX6_bestStep 113 6344 ad0 p l e R s0 m args below meth c Q opsS ret r .ireturn okI) : ∀ q ∈ tb_X6_bestStep cal, OKi G A 7 113 6344 ad0 p l e R s0 m args below meth c Q opsS ret r q.1 q.2 :=
    okc (ok_iload_n (j := 2) X (by decide +kernel) rfl rfl) (
    okc (ok_istore_n (j := 3) X (by decide +kernel) rfl rfl) (
    okc (ok_ldc (i := 41) X (by decide +kernel) wk_X6_41 rfl) (
    okc (ok_istore X (by decide +kernel) rfl) (
    okc (ok_iconst (n := 0) X (by decide +kernel) rfl rfl) (
    okc (ok_istore X (by decide +kernel) rfl) (
    okc (ok_iload X (by decide +kernel) rfl) (
    okc (ok_aload_n (j := 0) X (by decide +kernel) rfl rfl) (
    okc (ok_getR (ci := 6) (kf := 0) (idx := 15) (C := RX6) (T := TX6) (N := 3) X rfl (by decide) inX6 (by decide) wf_X6_15 (fun _ _ _ => rfl) (by decide +kernel) rfl) (
    okc (ok_getI (ci := 9) (kf := 1) (idx := 29) (C := RX9) (T := TX9) (N := 8) X rfl (by decide) inX9 (by decide) wf_X6_29 (fun _ _ _ => rfl) (by decide +kernel) rfl) (
    okc (ok_cge (off := 64) X (by decide +kernel) (by decide) rfl) (
    okc (ok_iload X (by decide +kernel) rfl) (
    okc (ok_iload_n (j := 2) X (by decide +kernel) rfl rfl) (
    okc (ok_ceq (off := 16) X (by decide +kernel) (by decide) rfl) (
    okc (ok_aload_n (j := 0) X (by decide +kernel) rfl rfl) (
    okc (ok_getR (ci := 6) (kf := 0) (idx := 15) (C := RX6) (T := TX6) (N := 3) X rfl (by decide) inX6 (by decide) wf_X6_15 (fun _ _ _ => rfl) (by decide +kernel) rfl) (
    okc (ok_iload_n (j := 2) X (by decide +kernel) rfl rfl) (
    okc (ok_iload X (by decide +kernel) rfl) (
    okc (ok_callV (ci := 9) (C := RX9) (T := TX9) (N := 8) (Y := (yX9_joined, cX9_joined, 3, (some .boolean))) X hcal opsS_n md_X9_joined rfl (by decide) rfl wc_X9_joined wl_X6_59 wi_X9 wm_X9_joined wv_X9_joined (by decide +kernel) (hRm 3 (by decide)) (by decide +kernel) rfl) (
    okc (ok_ifeq (off := 7) X (by decide +kernel) (by decide) rfl) (
    okc (ok_iconst (n := 1) X (by decide +kernel) rfl rfl) (
    okc (ok_goto (off := 4) X (by decide +kernel) (by decide)) (
    okc (ok_iconst (n := 0) X (by decide +kernel) rfl rfl) (
    okc (ok_istore X (by decide +kernel) rfl) (
    okc (ok_iload X (by decide +kernel) rfl) (
    okc (ok_ifeq (off := 27) X (by decide +kernel) (by decide) rfl) (
    okc (ok_aload_n (j := 0) X (by decide +kernel) rfl rfl) (
    okc (ok_iload_n (j := 1) X (by decide +kernel) rfl rfl) (
    okc (ok_iload X (by decide +kernel) rfl) (
    okc (ok_callV (ci := 6) (C := RX6) (T := TX6) (N := 3) (Y := (yX6_leastAt, cX6_leastAt, 4, (some .int))) X hcal opsS_n md_X6_leastAt rfl (by decide) rfl wc_X6_leastAt wl_X6_38 wi_X6 wm_X6_leastAt wv_X6_leastAt (by decide +kernel) (hRm 4 (by decide)) (by decide +kernel) rfl) (
    okc (ok_iload X (by decide +kernel) rfl) (
    okc (ok_cge (off := 15) X (by decide +kernel) (by decide) rfl) (
    okc (ok_aload_n (j := 0) X (by decide +kernel) rfl rfl) (
    okc (ok_iload_n (j := 1) X (by decide +kernel) rfl rfl) (
    okc (ok_iload X (by decide +kernel) rfl) (
    okc (ok_callV (ci := 6) (C := RX6) (T := TX6) (N := 3) (Y := (yX6_leastAt, cX6_leastAt, 4, (some .int))) X hcal opsS_n md_X6_leastAt rfl (by decide) rfl wc_X6_leastAt wl_X6_38 wi_X6 wm_X6_leastAt wv_X6_leastAt (by decide +kernel) (hRm 4 (by decide)) (by decide +kernel) rfl) (
    okc (ok_istore X (by decide +kernel) rfl) (
    okc (ok_iload X (by decide +kernel) rfl) (
    okc (ok_istore_n (j := 3) X (by decide +kernel) rfl rfl) (
    okc (ok_iinc (n := 1) X (by decide +kernel) rfl rfl) (
    okc (ok_goto (off := -70) X (by decide +kernel) (by decide)) (
    okc (ok_iload_n (j := 3) X (by decide +kernel) rfl rfl) (
    okc (ok_iret hret (by decide +kernel)) (
    okn)))))))))))))))))))))))))))))))))))))))))))
noncomputable def es_X6_bestStep  : List (Nat × En) := [(81, en_X9_joined), (45, en_X6_leastAt)]
noncomputable def ka_X6_bestStep_9   (n : Nat) : Kn SS (Int32 × SS) := fun pc ls st s => bif Nat.beq pc 9 then (match ls, st with
    | [some y0, some (.int x1), some (.int x2), some (.int x3), some (.int x4), some (.int x5), _], [] => (gd (veq y0 (.ref 48)) (F_X6_bestStep_9 n x1 x2 x3 x4 x5 s))
    | _, _ => none) else (none)
set_option maxRecDepth 100000 in
set_option maxHeartbeats 4000000 in
theorem eq_X6_bestStep_9    (n : Nat) (x1 : Int32) (x2 : Int32) (x3 : Int32) (x4 : Int32) (x5 : Int32) (s : SS) : ex (tb_X6_bestStep (calE (es_X6_bestStep))) rI [9] (ka_X6_bestStep_9   n) 45 9 [some (.ref 48), some (.int x1), some (.int x2), some (.int x3), some (.int x4), some (.int x5), none] [] s = F_X6_bestStep_9   (n + 1) x1 x2 x3 x4 x5 s := by
  rfl
set_option maxRecDepth 100000 in
set_option maxHeartbeats 4000000 in
theorem gd_X6_bestStep_9 {ad0 : Nat → Nat} {G : Gm} {A : Nat → Prop} {p : Program} {l : Launch} {e : Env} {R : Room} {s0 : State} {m : MethodId} {args : Array Value} {below : List Frame} {meth : Method} {c : Code} {Q : State → Prop} {r : (Int32 × SS)}   (hT : ∀ q ∈ tb_X6_bestStep (calE (es_X6_bestStep)), OKi G A 7 113 6344 ad0 p l e R s0 m args below meth c Q opsS rI r q.1 q.2)   : ∀ (n : Nat) (x1 : Int32) (x2 : Int32) (x3 : Int32) (x4 : Int32) (x5 : Int32) (s : SS), F_X6_bestStep_9   n x1 x2 x3 x4 x5 s = some r → Gd G A 7 113 6344 ad0 p l e R s0 m args below meth c Q opsS 9 [some (.ref 48), some (.int x1), some (.int x2), some (.int x3), some (.int x4), some (.int x5), none] [] s := by
  intro n
  induction n with
  | zero =>
    intro x1 x2 x3 x4 x5 s hh
    exact absurd (show (none : Option (Int32 × SS)) = some r from hh) (by simp)
  | succ n ih =>
    intro x1 x2 x3 x4 x5 s hh
    rw [← eq_X6_bestStep_9    n x1 x2 x3 x4 x5 s] at hh
    refine ex_good hT (fun pc' ls' st' x' hh => ?_) 45 9 _ [] s hh
    unfold ka_X6_bestStep_9 at hh
    cases hb : Nat.beq pc' 9 with
    | true =>
      rw [hb] at hh
      have e9 := beq1 hb
      subst e9
      simp only [cond_true] at hh
      split at hh
      · obtain ⟨g0, hh1⟩ := gd_some hh
        have e0 := veq_of g0
        subst e0
        exact Gd.wk (ih _ _ _ _ _ _ hh1) (Lle.eq (Lle.eq (Lle.eq (Lle.eq (Lle.eq (Lle.eq (Lle.no Lle.nil)))))))
      · cases hh
    | false =>
      rw [hb] at hh
      simp only [cond_false] at hh
      cases hh

noncomputable def ka_X6_bestStep  : Kn SS (Int32 × SS) := fun pc ls st s => bif Nat.beq pc 9 then (match ls, st with
    | [some y0, some (.int x1), some (.int x2), some (.int x3), some (.int x4), some (.int x5), _], [] => (gd (veq y0 (.ref 48)) (F_X6_bestStep_9 fuel0 x1 x2 x3 x4 x5 s))
    | _, _ => none) else (none)
set_option maxRecDepth 100000 in
set_option maxHeartbeats 4000000 in
theorem eq_X6_bestStep   (a0 : Int32) (a1 : Int32) (s : SS) : ex (tb_X6_bestStep (calE (es_X6_bestStep))) rI [9] (ka_X6_bestStep ) 45 0 [some (.ref 48), some (.int a0), some (.int a1), none, none, none, none] [] s = f_X6_bestStep a0 a1 s := by
  rfl
set_option maxRecDepth 100000 in
set_option maxHeartbeats 4000000 in
theorem run_X6_bestStep {l : Launch} {G : Gm}   (a0 : Int32) (a1 : Int32) (s : SS) (q : (Int32 × SS)) (h : f_X6_bestStep a0 a1 s = some q) (D' : Nat) (hD : 2 ≤ D') : RunsM l G (D' + 1) (md 44) (embS s) [.ref 48, .int a0, .int a1] (some (.int q.1)) (embS q.2) := by
  rw [md_X6_bestStep]
  refine runs_I (plainFor_of_name (by decide +kernel)) (Nat.le_of_ble_eq_true rfl) rfl ?_
  intro A p e R s0 m args below meth c Q ad0 hR X hret
  have X : Cx G A RX6 cX6_bestStep 7 p s0 m args c := X
  have hT := tk_X6_bestStep X (calE_ok (es := es_X6_bestStep) (enc (en_X9_joined_ok _ (by omega)) (enc (en_X6_leastAt_ok _ (by omega)) (enn)))) (rmD rfl hR) hret
  rw [← eq_X6_bestStep   a0 a1 s] at h
  refine ex_good hT (fun pc' ls' st' x' hh => ?_) 45 0 _ [] s h
  unfold ka_X6_bestStep at hh
  cases hb : Nat.beq pc' 9 with
  | true =>
    rw [hb] at hh
    have e9 := beq1 hb
    subst e9
    simp only [cond_true] at hh
    split at hh
    · obtain ⟨g0, hh1⟩ := gd_some hh
      have e0 := veq_of g0
      subst e0
      exact Gd.wk (gd_X6_bestStep_9 hT  _ _ _ _ _ _ _ hh1) (Lle.eq (Lle.eq (Lle.eq (Lle.eq (Lle.eq (Lle.eq (Lle.no Lle.nil)))))))
    · cases hh
  | false =>
    rw [hb] at hh
    simp only [cond_false] at hh
    cases hh

noncomputable def en_X6_bestStep  : En := fun _ av s k => match av with
  | [.ref r0, .int a0, .int a1] => (gd (Nat.beq r0 48) (bI (f_X6_bestStep a0 a1 s) k))
  | _ => none
set_option maxRecDepth 100000 in
set_option maxHeartbeats 4000000 in
theorem en_X6_bestStep_ok {l : Launch} {G : Gm} (D : Nat) (hD : 3 ≤ D) : enOK l G D 44 en_X6_bestStep := by
  intro ρ av x k r h
  unfold en_X6_bestStep at h
  split at h
  · obtain ⟨g0, h⟩ := gd_some h
    obtain ⟨q, h1, h2⟩ := bind_of h
    have e0 := beq1 g0
    subst e0
    obtain ⟨D', rfl⟩ : ∃ D', D = D' + 1 := ⟨D - 1, by omega⟩
    exact ⟨_, _, h2, run_X6_bestStep  _ _ _ _ h1 D' (by omega)⟩
  · cases h

/-! HatRank$Routes measure -/
noncomputable def tb_X6_measure (cal : Cal SS) : List (Nat × Ins SS) := [(0, e_iload 4 2), (2, e_istore 5 4), (4, e_iload 5 6), (6, e_aload 1 7), (7, e_getI opsS 2 3 10), (10, e_clt 129 13), (13, e_iconst (0) 14), (14, e_istore 6 16), (16, e_iload 6 18), (18, e_aload 0 19), (19, e_getR opsS 6 0 22), (22, e_getI opsS 9 1 25), (25, e_cge 123 28), (28, e_iload 5 30), (30, e_iload 4 32), (32, e_cge 56 35), (35, e_aload 0 36), (36, e_iload 5 38), (38, e_iconst (1) 39), (39, e_bin aAdd 40), (40, e_aload 0 41), (41, e_iload 5 43), (43, e_iconst (1) 44), (44, e_bin aAdd 45), (45, e_iload 6 47), (47, e_callV opsS cal 44 2 6 50), (50, e_callV opsS cal 45 2 6 53), (53, e_goto 68), (56, e_iload 6 58), (58, e_iload 3 59), (59, e_cne 66 62), (62, e_iconst (0) 63), (63, e_goto 68), (66, e_iconst (1000000) 68), (68, e_istore 7 70), (70, e_aload 0 71), (71, e_getR opsS 6 1 74), (74, e_aload 1 75), (75, e_iload 2 76), (76, e_iload 6 78), (78, e_iload 5 80), (80, e_aload 0 81), (81, e_getR opsS 6 0 84), (84, e_getR opsS 9 3 87), (87, e_iload 2 88), (88, e_ald opsS 100 89), (89, e_callV opsS cal 33 5 4 92), (92, e_istore 8 94), (94, e_aload 0 95), (95, e_getR opsS 6 2 98), (98, e_iload 5 100), (100, e_iconst (7) 102), (102, e_bin aMul 103), (103, e_iload 6 105), (105, e_bin aAdd 106), (106, e_iconst (1000000) 108), (108, e_iload 7 110), (110, e_iload 8 112), (112, e_bin aAdd 113), (113, e_callS cal 268 2 116), (116, e_ast opsS 100 (fun v => v) 117), (117, e_iinc 6 (1) 120), (120, e_goto 16), (123, e_iinc 5 (-1) 126), (126, e_goto 4), (129, e_aload 0 130), (130, e_aload 1 131), (131, e_getI opsS 2 3 134), (134, e_aload 1 135), (135, e_getR opsS 2 1 138), (138, e_iload 2 139), (139, e_ald opsS 100 140), (140, e_callV opsS cal 45 2 6 143), (143, e_iret)]
set_option maxRecDepth 100000 in
set_option maxHeartbeats 4000000 in
theorem tk_X6_measure {ad0 : Nat → Nat} {G : Gm} {A : Nat → Prop} {p : Program} {l : Launch} {e : Env} {R : Room} {s0 : State} {m : MethodId} {args : Array Value} {below : List Frame} {meth : Method} {c : Code} {Q : State → Prop} {ρ : Type} {ret : Option Value → SS → Option ρ} {r : ρ} (X : Cx G A RX6 cX6_measure 9 p s0 m args c) {D' : Nat} {cal : Cal SS} (hcal : calOK l G opsS D' cal) (hRm : ∀ k, k ≤ 21 → D' + 1 ≤ R.frames ∧ 8 + (k + 11) + 40 * D' ≤ R.locals) (hret : RetK G A cX6_measure 113 6344 ad0 p l e R s0 m args below meth c Q opsS ret r .ireturn okI) : ∀ q ∈ tb_X6_measure cal, OKi G A 9 113 6344 ad0 p l e R s0 m args below meth c Q opsS ret r q.1 q.2 :=
    okc (ok_iload X (by decide +kernel) rfl) (
    okc (ok_istore X (by decide +kernel) rfl) (
    okc (ok_iload X (by decide +kernel) rfl) (
    okc (ok_aload_n (j := 1) X (by decide +kernel) rfl rfl) (
    okc (ok_getI (ci := 2) (kf := 3) (idx := 23) (C := RX2) (T := TX2) (N := 4) X rfl (by decide) inX2 (by decide) wf_X6_23 (fun _ _ _ => rfl) (by decide +kernel) rfl) (
    okc (ok_clt (off := 119) X (by decide +kernel) (by decide) rfl) (
    okc (ok_iconst (n := 0) X (by decide +kernel) rfl rfl) (
    okc (ok_istore X (by decide +kernel) rfl) (
    okc (ok_iload X (by decide +kernel) rfl) (
    okc (ok_aload_n (j := 0) X (by decide +kernel) rfl rfl) (
    okc (ok_getR (ci := 6) (kf := 0) (idx := 15) (C := RX6) (T := TX6) (N := 3) X rfl (by decide) inX6 (by decide) wf_X6_15 (fun _ _ _ => rfl) (by decide +kernel) rfl) (
    okc (ok_getI (ci := 9) (kf := 1) (idx := 29) (C := RX9) (T := TX9) (N := 8) X rfl (by decide) inX9 (by decide) wf_X6_29 (fun _ _ _ => rfl) (by decide +kernel) rfl) (
    okc (ok_cge (off := 98) X (by decide +kernel) (by decide) rfl) (
    okc (ok_iload X (by decide +kernel) rfl) (
    okc (ok_iload X (by decide +kernel) rfl) (
    okc (ok_cge (off := 24) X (by decide +kernel) (by decide) rfl) (
    okc (ok_aload_n (j := 0) X (by decide +kernel) rfl rfl) (
    okc (ok_iload X (by decide +kernel) rfl) (
    okc (ok_iconst (n := 1) X (by decide +kernel) rfl rfl) (
    okc (ok_iadd X (by decide +kernel) rfl) (
    okc (ok_aload_n (j := 0) X (by decide +kernel) rfl rfl) (
    okc (ok_iload X (by decide +kernel) rfl) (
    okc (ok_iconst (n := 1) X (by decide +kernel) rfl rfl) (
    okc (ok_iadd X (by decide +kernel) rfl) (
    okc (ok_iload X (by decide +kernel) rfl) (
    okc (ok_callV (ci := 6) (C := RX6) (T := TX6) (N := 3) (Y := (yX6_bestStep, cX6_bestStep, 7, (some .int))) X hcal opsS_n md_X6_bestStep rfl (by decide) rfl wc_X6_bestStep wl_X6_34 wi_X6 wm_X6_bestStep wv_X6_bestStep (by decide +kernel) (hRm 7 (by decide)) (by decide +kernel) rfl) (
    okc (ok_callV (ci := 6) (C := RX6) (T := TX6) (N := 3) (Y := (yX6_leastAt, cX6_leastAt, 4, (some .int))) X hcal opsS_n md_X6_leastAt rfl (by decide) rfl wc_X6_leastAt wl_X6_38 wi_X6 wm_X6_leastAt wv_X6_leastAt (by decide +kernel) (hRm 4 (by decide)) (by decide +kernel) rfl) (
    okc (ok_goto (off := 15) X (by decide +kernel) (by decide)) (
    okc (ok_iload X (by decide +kernel) rfl) (
    okc (ok_iload_n (j := 3) X (by decide +kernel) rfl rfl) (
    okc (ok_cne (off := 7) X (by decide +kernel) (by decide) rfl) (
    okc (ok_iconst (n := 0) X (by decide +kernel) rfl rfl) (
    okc (ok_goto (off := 5) X (by decide +kernel) (by decide)) (
    okc (ok_ldc (i := 41) X (by decide +kernel) wk_X6_41 rfl) (
    okc (ok_istore X (by decide +kernel) rfl) (
    okc (ok_aload_n (j := 0) X (by decide +kernel) rfl rfl) (
    okc (ok_getR (ci := 6) (kf := 1) (idx := 19) (C := RX6) (T := TX6) (N := 3) X rfl (by decide) inX6 (by decide) wf_X6_19 (fun _ _ _ => rfl) (by decide +kernel) rfl) (
    okc (ok_aload_n (j := 1) X (by decide +kernel) rfl rfl) (
    okc (ok_iload_n (j := 2) X (by decide +kernel) rfl rfl) (
    okc (ok_iload X (by decide +kernel) rfl) (
    okc (ok_iload X (by decide +kernel) rfl) (
    okc (ok_aload_n (j := 0) X (by decide +kernel) rfl rfl) (
    okc (ok_getR (ci := 6) (kf := 0) (idx := 15) (C := RX6) (T := TX6) (N := 3) X rfl (by decide) inX6 (by decide) wf_X6_15 (fun _ _ _ => rfl) (by decide +kernel) rfl) (
    okc (ok_getR (ci := 9) (kf := 3) (idx := 42) (C := RX9) (T := TX9) (N := 8) X rfl (by decide) inX9 (by decide) wf_X6_42 (fun _ _ _ => rfl) (by decide +kernel) rfl) (
    okc (ok_iload_n (j := 2) X (by decide +kernel) rfl rfl) (
    okc (ok_iald X (by decide +kernel) rfl) (
    okc (ok_callV (ci := 4) (C := RX4) (T := TX4) (N := 4) (Y := (yX4_number, cX4_number, 9, (some .int))) X hcal opsS_n md_X4_number rfl (by decide) rfl wc_X4_number wl_X6_45 wi_X4 wm_X4_number wv_X4_number (by decide +kernel) (hRm 9 (by decide)) (by decide +kernel) rfl) (
    okc (ok_istore X (by decide +kernel) rfl) (
    okc (ok_aload_n (j := 0) X (by decide +kernel) rfl rfl) (
    okc (ok_getR (ci := 6) (kf := 2) (idx := 9) (C := RX6) (T := TX6) (N := 3) X rfl (by decide) inX6 (by decide) wf_X6_9 (fun _ _ _ => rfl) (by decide +kernel) rfl) (
    okc (ok_iload X (by decide +kernel) rfl) (
    okc (ok_bipush (n := 7) X (by decide +kernel) rfl rfl) (
    okc (ok_imul X (by decide +kernel) rfl) (
    okc (ok_iload X (by decide +kernel) rfl) (
    okc (ok_iadd X (by decide +kernel) rfl) (
    okc (ok_ldc (i := 41) X (by decide +kernel) wk_X6_41 rfl) (
    okc (ok_iload X (by decide +kernel) rfl) (
    okc (ok_iload X (by decide +kernel) rfl) (
    okc (ok_iadd X (by decide +kernel) rfl) (
    okc (ok_callS (Y := (yJ9_min_7cf53, cJ9_min_7cf53, 2, (some .int))) X hcal opsS_n md_J9_min_7cf53 wc_J9_min_7cf53 wl_X6_51 wi_J9 ws_J9_min_7cf53 (by decide +kernel) (hRm 2 (by decide)) (by decide +kernel) rfl) (
    okc (ok_iast X opsS_ok (by decide +kernel) rfl) (
    okc (ok_iinc (n := 1) X (by decide +kernel) rfl rfl) (
    okc (ok_goto (off := -104) X (by decide +kernel) (by decide)) (
    okc (ok_iinc (n := -1) X (by decide +kernel) rfl rfl) (
    okc (ok_goto (off := -122) X (by decide +kernel) (by decide)) (
    okc (ok_aload_n (j := 0) X (by decide +kernel) rfl rfl) (
    okc (ok_aload_n (j := 1) X (by decide +kernel) rfl rfl) (
    okc (ok_getI (ci := 2) (kf := 3) (idx := 23) (C := RX2) (T := TX2) (N := 4) X rfl (by decide) inX2 (by decide) wf_X6_23 (fun _ _ _ => rfl) (by decide +kernel) rfl) (
    okc (ok_aload_n (j := 1) X (by decide +kernel) rfl rfl) (
    okc (ok_getR (ci := 2) (kf := 1) (idx := 56) (C := RX2) (T := TX2) (N := 4) X rfl (by decide) inX2 (by decide) wf_X6_56 (fun _ _ _ => rfl) (by decide +kernel) rfl) (
    okc (ok_iload_n (j := 2) X (by decide +kernel) rfl rfl) (
    okc (ok_iald X (by decide +kernel) rfl) (
    okc (ok_callV (ci := 6) (C := RX6) (T := TX6) (N := 3) (Y := (yX6_leastAt, cX6_leastAt, 4, (some .int))) X hcal opsS_n md_X6_leastAt rfl (by decide) rfl wc_X6_leastAt wl_X6_38 wi_X6 wm_X6_leastAt wv_X6_leastAt (by decide +kernel) (hRm 4 (by decide)) (by decide +kernel) rfl) (
    okc (ok_iret hret (by decide +kernel)) (
    okn))))))))))))))))))))))))))))))))))))))))))))))))))))))))))))))))))))))))))
noncomputable def es_X6_measure  : List (Nat × En) := [(44, en_X6_bestStep), (45, en_X6_leastAt), (33, en_X4_number), (268, en_J9_min_7cf53)]
noncomputable def ka_X6_measure_16 (d : Nat) (k4 : Int32 → Int32 → Int32 → Int32 → SS → Option (Int32 × SS)) (n : Nat) : Kn SS (Int32 × SS) := fun pc ls st s => bif Nat.beq pc 4 then (match ls, st with
    | [some y0, some y1, some (.int x2), some (.int x3), some (.int x4), some (.int x5), _, _, _], [] => (gd (veq y0 (.ref 48)) (gd (veq y1 (.ref d)) (k4 x2 x3 x4 x5 s)))
    | _, _ => none) else (bif Nat.beq pc 16 then (match ls, st with
    | [some y0, some y1, some (.int x2), some (.int x3), some (.int x4), some (.int x5), some (.int x6), _, _], [] => (gd (veq y0 (.ref 48)) (gd (veq y1 (.ref d)) (F_X6_measure_16 d k4 n x2 x3 x4 x5 x6 s)))
    | _, _ => none) else (none))
set_option maxRecDepth 100000 in
set_option maxHeartbeats 4000000 in
theorem eq_X6_measure_16 (d : Nat) (k4 : Int32 → Int32 → Int32 → Int32 → SS → Option (Int32 × SS)) (hd : (Nat.beq d 7) = true) (n : Nat) (x2 : Int32) (x3 : Int32) (x4 : Int32) (x5 : Int32) (x6 : Int32) (s : SS) : ex (tb_X6_measure (calE (es_X6_measure))) rI [4, 16] (ka_X6_measure_16 d k4 n) 76 16 [some (.ref 48), some (.ref d), some (.int x2), some (.int x3), some (.int x4), some (.int x5), some (.int x6), none, none] [] s = F_X6_measure_16 d k4 (n + 1) x2 x3 x4 x5 x6 s := by
  rcases beq1 hd with rfl <;> rfl
noncomputable def ka_X6_measure_4 (d : Nat)  (n : Nat) : Kn SS (Int32 × SS) := fun pc ls st s => bif Nat.beq pc 16 then (match ls, st with
    | [some y0, some y1, some (.int x2), some (.int x3), some (.int x4), some (.int x5), some (.int x6), _, _], [] => (gd (veq y0 (.ref 48)) (gd (veq y1 (.ref d)) (F_X6_measure_16 d (F_X6_measure_4 d n) fuel0 x2 x3 x4 x5 x6 s)))
    | _, _ => none) else (none)
set_option maxRecDepth 100000 in
set_option maxHeartbeats 4000000 in
theorem eq_X6_measure_4 (d : Nat)  (hd : (Nat.beq d 7) = true) (n : Nat) (x2 : Int32) (x3 : Int32) (x4 : Int32) (x5 : Int32) (s : SS) : ex (tb_X6_measure (calE (es_X6_measure))) rI [4, 16] (ka_X6_measure_4 d  n) 76 4 [some (.ref 48), some (.ref d), some (.int x2), some (.int x3), some (.int x4), some (.int x5), none, none, none] [] s = F_X6_measure_4 d  (n + 1) x2 x3 x4 x5 s := by
  rcases beq1 hd with rfl <;> rfl
set_option maxRecDepth 100000 in
set_option maxHeartbeats 4000000 in
theorem gd_X6_measure_16 {ad0 : Nat → Nat} {G : Gm} {A : Nat → Prop} {p : Program} {l : Launch} {e : Env} {R : Room} {s0 : State} {m : MethodId} {args : Array Value} {below : List Frame} {meth : Method} {c : Code} {Q : State → Prop} {r : (Int32 × SS)} {d : Nat} {k4 : Int32 → Int32 → Int32 → Int32 → SS → Option (Int32 × SS)} (hT : ∀ q ∈ tb_X6_measure (calE (es_X6_measure)), OKi G A 9 113 6344 ad0 p l e R s0 m args below meth c Q opsS rI r q.1 q.2) (hk4 : ∀ (x2 : Int32) (x3 : Int32) (x4 : Int32) (x5 : Int32) (s : SS), k4 x2 x3 x4 x5 s = some r → Gd G A 9 113 6344 ad0 p l e R s0 m args below meth c Q opsS 4 [some (.ref 48), some (.ref d), some (.int x2), some (.int x3), some (.int x4), some (.int x5), none, none, none] [] s) (hd : (Nat.beq d 7) = true) : ∀ (n : Nat) (x2 : Int32) (x3 : Int32) (x4 : Int32) (x5 : Int32) (x6 : Int32) (s : SS), F_X6_measure_16 d k4 n x2 x3 x4 x5 x6 s = some r → Gd G A 9 113 6344 ad0 p l e R s0 m args below meth c Q opsS 16 [some (.ref 48), some (.ref d), some (.int x2), some (.int x3), some (.int x4), some (.int x5), some (.int x6), none, none] [] s := by
  intro n
  induction n with
  | zero =>
    intro x2 x3 x4 x5 x6 s hh
    exact absurd (show (none : Option (Int32 × SS)) = some r from hh) (by simp)
  | succ n ih =>
    intro x2 x3 x4 x5 x6 s hh
    rw [← eq_X6_measure_16 d k4 hd n x2 x3 x4 x5 x6 s] at hh
    refine ex_good hT (fun pc' ls' st' x' hh => ?_) 76 16 _ [] s hh
    unfold ka_X6_measure_16 at hh
    cases hb : Nat.beq pc' 4 with
    | true =>
      rw [hb] at hh
      have e9 := beq1 hb
      subst e9
      simp only [cond_true] at hh
      split at hh
      · obtain ⟨g0, hh1⟩ := gd_some hh
        have e0 := veq_of g0
        subst e0
        obtain ⟨g1, hh2⟩ := gd_some hh1
        have e1 := veq_of g1
        subst e1
        exact Gd.wk (hk4 _ _ _ _ _ hh2) (Lle.eq (Lle.eq (Lle.eq (Lle.eq (Lle.eq (Lle.eq (Lle.no (Lle.no (Lle.no Lle.nil)))))))))
      · cases hh
    | false =>
      rw [hb] at hh
      simp only [cond_false] at hh
      cases hb : Nat.beq pc' 16 with
      | true =>
        rw [hb] at hh
        have e9 := beq1 hb
        subst e9
        simp only [cond_true] at hh
        split at hh
        · obtain ⟨g0, hh1⟩ := gd_some hh
          have e0 := veq_of g0
          subst e0
          obtain ⟨g1, hh2⟩ := gd_some hh1
          have e1 := veq_of g1
          subst e1
          exact Gd.wk (ih _ _ _ _ _ _ hh2) (Lle.eq (Lle.eq (Lle.eq (Lle.eq (Lle.eq (Lle.eq (Lle.eq (Lle.no (Lle.no Lle.nil)))))))))
        · cases hh
      | false =>
        rw [hb] at hh
        simp only [cond_false] at hh
        cases hh

set_option maxRecDepth 100000 in
set_option maxHeartbeats 4000000 in
theorem gd_X6_measure_4 {ad0 : Nat → Nat} {G : Gm} {A : Nat → Prop} {p : Program} {l : Launch} {e : Env} {R : Room} {s0 : State} {m : MethodId} {args : Array Value} {below : List Frame} {meth : Method} {c : Code} {Q : State → Prop} {r : (Int32 × SS)} {d : Nat}  (hT : ∀ q ∈ tb_X6_measure (calE (es_X6_measure)), OKi G A 9 113 6344 ad0 p l e R s0 m args below meth c Q opsS rI r q.1 q.2)  (hd : (Nat.beq d 7) = true) : ∀ (n : Nat) (x2 : Int32) (x3 : Int32) (x4 : Int32) (x5 : Int32) (s : SS), F_X6_measure_4 d  n x2 x3 x4 x5 s = some r → Gd G A 9 113 6344 ad0 p l e R s0 m args below meth c Q opsS 4 [some (.ref 48), some (.ref d), some (.int x2), some (.int x3), some (.int x4), some (.int x5), none, none, none] [] s := by
  intro n
  induction n with
  | zero =>
    intro x2 x3 x4 x5 s hh
    exact absurd (show (none : Option (Int32 × SS)) = some r from hh) (by simp)
  | succ n ih =>
    intro x2 x3 x4 x5 s hh
    rw [← eq_X6_measure_4 d  hd n x2 x3 x4 x5 s] at hh
    refine ex_good hT (fun pc' ls' st' x' hh => ?_) 76 4 _ [] s hh
    unfold ka_X6_measure_4 at hh
    cases hb : Nat.beq pc' 16 with
    | true =>
      rw [hb] at hh
      have e9 := beq1 hb
      subst e9
      simp only [cond_true] at hh
      split at hh
      · obtain ⟨g0, hh1⟩ := gd_some hh
        have e0 := veq_of g0
        subst e0
        obtain ⟨g1, hh2⟩ := gd_some hh1
        have e1 := veq_of g1
        subst e1
        exact Gd.wk (gd_X6_measure_16 hT  ih hd _ _ _ _ _ _ _ hh2) (Lle.eq (Lle.eq (Lle.eq (Lle.eq (Lle.eq (Lle.eq (Lle.eq (Lle.no (Lle.no Lle.nil)))))))))
      · cases hh
    | false =>
      rw [hb] at hh
      simp only [cond_false] at hh
      cases hh

noncomputable def ka_X6_measure (d : Nat) : Kn SS (Int32 × SS) := fun pc ls st s => bif Nat.beq pc 4 then (match ls, st with
    | [some y0, some y1, some (.int x2), some (.int x3), some (.int x4), some (.int x5), _, _, _], [] => (gd (veq y0 (.ref 48)) (gd (veq y1 (.ref d)) (F_X6_measure_4 d fuel0 x2 x3 x4 x5 s)))
    | _, _ => none) else (none)
set_option maxRecDepth 100000 in
set_option maxHeartbeats 4000000 in
theorem eq_X6_measure (d : Nat) (hd : (Nat.beq d 7) = true) (a0 : Int32) (a1 : Int32) (a2 : Int32) (s : SS) : ex (tb_X6_measure (calE (es_X6_measure))) rI [4, 16] (ka_X6_measure d) 76 0 [some (.ref 48), some (.ref d), some (.int a0), some (.int a1), some (.int a2), none, none, none, none] [] s = f_X6_measure d a0 a1 a2 s := by
  rcases beq1 hd with rfl <;> rfl
set_option maxRecDepth 100000 in
set_option maxHeartbeats 4000000 in
theorem run_X6_measure {l : Launch} {G : Gm} {d : Nat} (hd : (Nat.beq d 7) = true) (a0 : Int32) (a1 : Int32) (a2 : Int32) (s : SS) (q : (Int32 × SS)) (h : f_X6_measure d a0 a1 a2 s = some q) (D' : Nat) (hD : 3 ≤ D') : RunsM l G (D' + 1) (md 42) (embS s) [.ref 48, .ref d, .int a0, .int a1, .int a2] (some (.int q.1)) (embS q.2) := by
  rw [md_X6_measure]
  refine runs_I (plainFor_of_name (by decide +kernel)) (Nat.le_of_ble_eq_true rfl) rfl ?_
  intro A p e R s0 m args below meth c Q ad0 hR X hret
  have X : Cx G A RX6 cX6_measure 9 p s0 m args c := X
  have hT := tk_X6_measure X (calE_ok (es := es_X6_measure) (enc (en_X6_bestStep_ok _ (by omega)) (enc (en_X6_leastAt_ok _ (by omega)) (enc (en_X4_number_ok _ (by omega)) (enc (en_J9_min_7cf53_ok _ (by omega)) (enn)))))) (rmD rfl hR) hret
  rw [← eq_X6_measure d hd a0 a1 a2 s] at h
  refine ex_good hT (fun pc' ls' st' x' hh => ?_) 76 0 _ [] s h
  unfold ka_X6_measure at hh
  cases hb : Nat.beq pc' 4 with
  | true =>
    rw [hb] at hh
    have e9 := beq1 hb
    subst e9
    simp only [cond_true] at hh
    split at hh
    · obtain ⟨g0, hh1⟩ := gd_some hh
      have e0 := veq_of g0
      subst e0
      obtain ⟨g1, hh2⟩ := gd_some hh1
      have e1 := veq_of g1
      subst e1
      exact Gd.wk (gd_X6_measure_4 hT hd _ _ _ _ _ _ hh2) (Lle.eq (Lle.eq (Lle.eq (Lle.eq (Lle.eq (Lle.eq (Lle.no (Lle.no (Lle.no Lle.nil)))))))))
    · cases hh
  | false =>
    rw [hb] at hh
    simp only [cond_false] at hh
    cases hh

noncomputable def en_X6_measure  : En := fun _ av s k => match av with
  | [.ref r0, .ref d, .int a0, .int a1, .int a2] => (gd (Nat.beq r0 48) (gd (Nat.beq d 7) (bI (f_X6_measure d a0 a1 a2 s) k)))
  | _ => none
set_option maxRecDepth 100000 in
set_option maxHeartbeats 4000000 in
theorem en_X6_measure_ok {l : Launch} {G : Gm} (D : Nat) (hD : 4 ≤ D) : enOK l G D 42 en_X6_measure := by
  intro ρ av x k r h
  unfold en_X6_measure at h
  split at h
  · obtain ⟨g0, h⟩ := gd_some h
    obtain ⟨g1, h⟩ := gd_some h
    obtain ⟨q, h1, h2⟩ := bind_of h
    have e0 := beq1 g0
    subst e0
    obtain ⟨D', rfl⟩ : ∃ D', D = D' + 1 := ⟨D - 1, by omega⟩
    exact ⟨_, _, h2, run_X6_measure g1 _ _ _ _ _ h1 D' (by omega)⟩
  · cases h

/-! HatRank$Routes follow -/
noncomputable def tb_X6_follow (cal : Cal SS) : List (Nat × Ins SS) := [(0, e_aload 1 1), (1, e_getR opsS 2 1 4), (4, e_iload 2 5), (5, e_ald opsS 100 6), (6, e_istore 4 8), (8, e_aload 1 9), (9, e_getI opsS 2 3 12), (12, e_iconst (1) 13), (13, e_bin aAdd 14), (14, e_istore 5 16), (16, e_iload 5 18), (18, e_iload 3 19), (19, e_cgt 38 22), (22, e_aload 0 23), (23, e_iload 5 25), (25, e_iload 4 27), (27, e_callV opsS cal 44 2 6 30), (30, e_istore 4 32), (32, e_iinc 5 (1) 35), (35, e_goto 16), (38, e_iload 4 40), (40, e_iret)]
set_option maxRecDepth 100000 in
set_option maxHeartbeats 4000000 in
theorem tk_X6_follow {ad0 : Nat → Nat} {G : Gm} {A : Nat → Prop} {p : Program} {l : Launch} {e : Env} {R : Room} {s0 : State} {m : MethodId} {args : Array Value} {below : List Frame} {meth : Method} {c : Code} {Q : State → Prop} {ρ : Type} {ret : Option Value → SS → Option ρ} {r : ρ} (X : Cx G A RX6 cX6_follow 6 p s0 m args c) {D' : Nat} {cal : Cal SS} (hcal : calOK l G opsS D' cal) (hRm : ∀ k, k ≤ 21 → D' + 1 ≤ R.frames ∧ 8 + (k + 11) + 40 * D' ≤ R.locals) (hret : RetK G A cX6_follow 113 6344 ad0 p l e R s0 m args below meth c Q opsS ret r .ireturn okI) : ∀ q ∈ tb_X6_follow cal, OKi G A 6 113 6344 ad0 p l e R s0 m args below meth c Q opsS ret r q.1 q.2 :=
    okc (ok_aload_n (j := 1) X (by decide +kernel) rfl rfl) (
    okc (ok_getR (ci := 2) (kf := 1) (idx := 56) (C := RX2) (T := TX2) (N := 4) X rfl (by decide) inX2 (by decide) wf_X6_56 (fun _ _ _ => rfl) (by decide +kernel) rfl) (
    okc (ok_iload_n (j := 2) X (by decide +kernel) rfl rfl) (
    okc (ok_iald X (by decide +kernel) rfl) (
    okc (ok_istore X (by decide +kernel) rfl) (
    okc (ok_aload_n (j := 1) X (by decide +kernel) rfl rfl) (
    okc (ok_getI (ci := 2) (kf := 3) (idx := 23) (C := RX2) (T := TX2) (N := 4) X rfl (by decide) inX2 (by decide) wf_X6_23 (fun _ _ _ => rfl) (by decide +kernel) rfl) (
    okc (ok_iconst (n := 1) X (by decide +kernel) rfl rfl) (
    okc (ok_iadd X (by decide +kernel) rfl) (
    okc (ok_istore X (by decide +kernel) rfl) (
    okc (ok_iload X (by decide +kernel) rfl) (
    okc (ok_iload_n (j := 3) X (by decide +kernel) rfl rfl) (
    okc (ok_cgt (off := 19) X (by decide +kernel) (by decide) rfl) (
    okc (ok_aload_n (j := 0) X (by decide +kernel) rfl rfl) (
    okc (ok_iload X (by decide +kernel) rfl) (
    okc (ok_iload X (by decide +kernel) rfl) (
    okc (ok_callV (ci := 6) (C := RX6) (T := TX6) (N := 3) (Y := (yX6_bestStep, cX6_bestStep, 7, (some .int))) X hcal opsS_n md_X6_bestStep rfl (by decide) rfl wc_X6_bestStep wl_X6_34 wi_X6 wm_X6_bestStep wv_X6_bestStep (by decide +kernel) (hRm 7 (by decide)) (by decide +kernel) rfl) (
    okc (ok_istore X (by decide +kernel) rfl) (
    okc (ok_iinc (n := 1) X (by decide +kernel) rfl rfl) (
    okc (ok_goto (off := -19) X (by decide +kernel) (by decide)) (
    okc (ok_iload X (by decide +kernel) rfl) (
    okc (ok_iret hret (by decide +kernel)) (
    okn))))))))))))))))))))))
noncomputable def es_X6_follow  : List (Nat × En) := [(44, en_X6_bestStep)]
noncomputable def ka_X6_follow_16 (d : Nat)  (n : Nat) : Kn SS (Int32 × SS) := fun pc ls st s => bif Nat.beq pc 16 then (match ls, st with
    | [some y0, _, _, some (.int x3), some (.int x4), some (.int x5)], [] => (gd (veq y0 (.ref 48)) (F_X6_follow_16 d n x3 x4 x5 s))
    | _, _ => none) else (none)
set_option maxRecDepth 100000 in
set_option maxHeartbeats 4000000 in
theorem eq_X6_follow_16 (d : Nat)  (hd : (Nat.beq d 7) = true) (n : Nat) (x3 : Int32) (x4 : Int32) (x5 : Int32) (s : SS) : ex (tb_X6_follow (calE (es_X6_follow))) rI [16] (ka_X6_follow_16 d  n) 24 16 [some (.ref 48), none, none, some (.int x3), some (.int x4), some (.int x5)] [] s = F_X6_follow_16 d  (n + 1) x3 x4 x5 s := by
  rcases beq1 hd with rfl <;> rfl
set_option maxRecDepth 100000 in
set_option maxHeartbeats 4000000 in
theorem gd_X6_follow_16 {ad0 : Nat → Nat} {G : Gm} {A : Nat → Prop} {p : Program} {l : Launch} {e : Env} {R : Room} {s0 : State} {m : MethodId} {args : Array Value} {below : List Frame} {meth : Method} {c : Code} {Q : State → Prop} {r : (Int32 × SS)} {d : Nat}  (hT : ∀ q ∈ tb_X6_follow (calE (es_X6_follow)), OKi G A 6 113 6344 ad0 p l e R s0 m args below meth c Q opsS rI r q.1 q.2)  (hd : (Nat.beq d 7) = true) : ∀ (n : Nat) (x3 : Int32) (x4 : Int32) (x5 : Int32) (s : SS), F_X6_follow_16 d  n x3 x4 x5 s = some r → Gd G A 6 113 6344 ad0 p l e R s0 m args below meth c Q opsS 16 [some (.ref 48), none, none, some (.int x3), some (.int x4), some (.int x5)] [] s := by
  intro n
  induction n with
  | zero =>
    intro x3 x4 x5 s hh
    exact absurd (show (none : Option (Int32 × SS)) = some r from hh) (by simp)
  | succ n ih =>
    intro x3 x4 x5 s hh
    rw [← eq_X6_follow_16 d  hd n x3 x4 x5 s] at hh
    refine ex_good hT (fun pc' ls' st' x' hh => ?_) 24 16 _ [] s hh
    unfold ka_X6_follow_16 at hh
    cases hb : Nat.beq pc' 16 with
    | true =>
      rw [hb] at hh
      have e9 := beq1 hb
      subst e9
      simp only [cond_true] at hh
      split at hh
      · obtain ⟨g0, hh1⟩ := gd_some hh
        have e0 := veq_of g0
        subst e0
        exact Gd.wk (ih _ _ _ _ hh1) (Lle.eq (Lle.no (Lle.no (Lle.eq (Lle.eq (Lle.eq Lle.nil))))))
      · cases hh
    | false =>
      rw [hb] at hh
      simp only [cond_false] at hh
      cases hh

noncomputable def ka_X6_follow (d : Nat) : Kn SS (Int32 × SS) := fun pc ls st s => bif Nat.beq pc 16 then (match ls, st with
    | [some y0, _, _, some (.int x3), some (.int x4), some (.int x5)], [] => (gd (veq y0 (.ref 48)) (F_X6_follow_16 d fuel0 x3 x4 x5 s))
    | _, _ => none) else (none)
set_option maxRecDepth 100000 in
set_option maxHeartbeats 4000000 in
theorem eq_X6_follow (d : Nat) (hd : (Nat.beq d 7) = true) (a0 : Int32) (a1 : Int32) (s : SS) : ex (tb_X6_follow (calE (es_X6_follow))) rI [16] (ka_X6_follow d) 24 0 [some (.ref 48), some (.ref d), some (.int a0), some (.int a1), none, none] [] s = f_X6_follow d a0 a1 s := by
  rcases beq1 hd with rfl <;> rfl
set_option maxRecDepth 100000 in
set_option maxHeartbeats 4000000 in
theorem run_X6_follow {l : Launch} {G : Gm} {d : Nat} (hd : (Nat.beq d 7) = true) (a0 : Int32) (a1 : Int32) (s : SS) (q : (Int32 × SS)) (h : f_X6_follow d a0 a1 s = some q) (D' : Nat) (hD : 3 ≤ D') : RunsM l G (D' + 1) (md 43) (embS s) [.ref 48, .ref d, .int a0, .int a1] (some (.int q.1)) (embS q.2) := by
  rw [md_X6_follow]
  refine runs_I (plainFor_of_name (by decide +kernel)) (Nat.le_of_ble_eq_true rfl) rfl ?_
  intro A p e R s0 m args below meth c Q ad0 hR X hret
  have X : Cx G A RX6 cX6_follow 6 p s0 m args c := X
  have hT := tk_X6_follow X (calE_ok (es := es_X6_follow) (enc (en_X6_bestStep_ok _ (by omega)) (enn))) (rmD rfl hR) hret
  rw [← eq_X6_follow d hd a0 a1 s] at h
  refine ex_good hT (fun pc' ls' st' x' hh => ?_) 24 0 _ [] s h
  unfold ka_X6_follow at hh
  cases hb : Nat.beq pc' 16 with
  | true =>
    rw [hb] at hh
    have e9 := beq1 hb
    subst e9
    simp only [cond_true] at hh
    split at hh
    · obtain ⟨g0, hh1⟩ := gd_some hh
      have e0 := veq_of g0
      subst e0
      exact Gd.wk (gd_X6_follow_16 hT hd _ _ _ _ _ hh1) (Lle.eq (Lle.no (Lle.no (Lle.eq (Lle.eq (Lle.eq Lle.nil))))))
    · cases hh
  | false =>
    rw [hb] at hh
    simp only [cond_false] at hh
    cases hh

noncomputable def en_X6_follow  : En := fun _ av s k => match av with
  | [.ref r0, .ref d, .int a0, .int a1] => (gd (Nat.beq r0 48) (gd (Nat.beq d 7) (bI (f_X6_follow d a0 a1 s) k)))
  | _ => none
set_option maxRecDepth 100000 in
set_option maxHeartbeats 4000000 in
theorem en_X6_follow_ok {l : Launch} {G : Gm} (D : Nat) (hD : 4 ≤ D) : enOK l G D 43 en_X6_follow := by
  intro ρ av x k r h
  unfold en_X6_follow at h
  split at h
  · obtain ⟨g0, h⟩ := gd_some h
    obtain ⟨g1, h⟩ := gd_some h
    obtain ⟨q, h1, h2⟩ := bind_of h
    have e0 := beq1 g0
    subst e0
    obtain ⟨D', rfl⟩ : ∃ D', D = D' + 1 := ⟨D - 1, by omega⟩
    exact ⟨_, _, h2, run_X6_follow g1 _ _ _ _ h1 D' (by omega)⟩
  · cases h

/-! HatRank$Wind begin -/
noncomputable def tb_X10_begin (cal : Cal SS) : List (Nat × Ins SS) := [(0, e_aload 0 1), (1, e_iload 1 2), (2, e_putI opsS 10 3 5), (5, e_vret)]
set_option maxRecDepth 100000 in
set_option maxHeartbeats 4000000 in
theorem tk_X10_begin {ad0 : Nat → Nat} {G : Gm} {A : Nat → Prop} {p : Program} {l : Launch} {e : Env} {R : Room} {s0 : State} {m : MethodId} {args : Array Value} {below : List Frame} {meth : Method} {c : Code} {Q : State → Prop} {ρ : Type} {ret : Option Value → SS → Option ρ} {r : ρ} (X : Cx G A RX10 cX10_begin 2 p s0 m args c) {D' : Nat} {cal : Cal SS} (hcal : calOK l G opsS D' cal) (hRm : ∀ k, k ≤ 21 → D' + 1 ≤ R.frames ∧ 8 + (k + 11) + 40 * D' ≤ R.locals) (hret : RetK G A cX10_begin 113 6344 ad0 p l e R s0 m args below meth c Q opsS ret r .return_ okV) : ∀ q ∈ tb_X10_begin cal, OKi G A 2 113 6344 ad0 p l e R s0 m args below meth c Q opsS ret r q.1 q.2 :=
    okc (ok_aload_n (j := 0) X (by decide +kernel) rfl rfl) (
    okc (ok_iload_n (j := 1) X (by decide +kernel) rfl rfl) (
    okc (ok_putI (ci := 10) (kf := 3) (idx := 26) (C := RX10) (T := TX10) (N := 4) X opsS_ok rfl (by decide) inX10 tyX10_ok nmX10 (by decide) wf_X10_26 rfl (fun _ _ _ => rfl) (by decide +kernel) (by decide +kernel) rfl) (
    okc (ok_vret hret (by decide +kernel)) (
    okn))))
noncomputable def es_X10_begin  : List (Nat × En) := []
set_option maxRecDepth 100000 in
set_option maxHeartbeats 4000000 in
theorem eq_X10_begin   (a0 : Int32) (s : SS) : ex (tb_X10_begin (calE (es_X10_begin))) rV [] (fun _ _ _ _ => none) 6 0 [some (.ref 29), some (.int a0)] [] s = f_X10_begin a0 s := by
  rfl
set_option maxRecDepth 100000 in
set_option maxHeartbeats 4000000 in
theorem run_X10_begin {l : Launch} {G : Gm}   (a0 : Int32) (s : SS) (q : SS) (h : f_X10_begin a0 s = some q) (D' : Nat) (hD : 0 ≤ D') : RunsM l G (D' + 1) (md 89) (embS s) [.ref 29, .int a0] none (embS q) := by
  rw [md_X10_begin]
  refine runs_V (plainFor_of_name (by decide +kernel)) (Nat.le_of_ble_eq_true rfl) rfl ?_
  intro A p e R s0 m args below meth c Q ad0 hR X hret
  have X : Cx G A RX10 cX10_begin 2 p s0 m args c := X
  have hT := tk_X10_begin X (calE_ok (es := es_X10_begin) (enn)) (rmD rfl hR) hret
  rw [← eq_X10_begin   a0 s] at h
  refine ex_good hT (fun pc' ls' st' x' hh => ?_) 6 0 _ [] s h
  cases hh

noncomputable def en_X10_begin  : En := fun _ av s k => match av with
  | [.ref r0, .int a0] => (gd (Nat.beq r0 29) (bV (f_X10_begin a0 s) k))
  | _ => none
set_option maxRecDepth 100000 in
set_option maxHeartbeats 4000000 in
theorem en_X10_begin_ok {l : Launch} {G : Gm} (D : Nat) (hD : 1 ≤ D) : enOK l G D 89 en_X10_begin := by
  intro ρ av x k r h
  unfold en_X10_begin at h
  split at h
  · obtain ⟨g0, h⟩ := gd_some h
    obtain ⟨q, h1, h2⟩ := bind_of h
    have e0 := beq1 g0
    subst e0
    obtain ⟨D', rfl⟩ : ∃ D', D = D' + 1 := ⟨D - 1, by omega⟩
    exact ⟨_, _, h2, run_X10_begin  _ _ _ h1 D' (by omega)⟩
  · cases h

/-! HatRank$Wind draws -/
noncomputable def tb_X10_draws (cal : Cal SS) : List (Nat × Ins SS) := [(0, e_aload 1 1), (1, e_getR opsS 2 0 4), (4, e_iload 2 5), (5, e_ald opsS 100 6), (6, e_ifne 11 9), (9, e_iconst (0) 10), (10, e_zret), (11, e_aload 0 12), (12, e_aload 0 13), (13, e_getI opsS 10 3 16), (16, e_iconst (1103515245) 18), (18, e_bin aMul 19), (19, e_iconst (12345) 22), (22, e_bin aAdd 23), (23, e_putI opsS 10 3 26), (26, e_aload 0 27), (27, e_getI opsS 10 3 30), (30, e_iconst (8) 32), (32, e_bin aUshr 33), (33, e_iconst (12) 35), (35, e_div aRem 36), (36, e_aload 0 37), (37, e_getR opsS 10 1 40), (40, e_aload 1 41), (41, e_iload 2 42), (42, e_aload 1 43), (43, e_getI opsS 2 3 46), (46, e_callV opsS cal 32 3 4 49), (49, e_cge 56 52), (52, e_iconst (1) 53), (53, e_goto 57), (56, e_iconst (0) 57), (57, e_zret)]
set_option maxRecDepth 100000 in
set_option maxHeartbeats 4000000 in
theorem tk_X10_draws {ad0 : Nat → Nat} {G : Gm} {A : Nat → Prop} {p : Program} {l : Launch} {e : Env} {R : Room} {s0 : State} {m : MethodId} {args : Array Value} {below : List Frame} {meth : Method} {c : Code} {Q : State → Prop} {ρ : Type} {ret : Option Value → SS → Option ρ} {r : ρ} (X : Cx G A RX10 cX10_draws 3 p s0 m args c) {D' : Nat} {cal : Cal SS} (hcal : calOK l G opsS D' cal) (hRm : ∀ k, k ≤ 21 → D' + 1 ≤ R.frames ∧ 8 + (k + 11) + 40 * D' ≤ R.locals) (hret : RetK G A cX10_draws 113 6344 ad0 p l e R s0 m args below meth c Q opsS ret r .ireturn okZ) : ∀ q ∈ tb_X10_draws cal, OKi G A 3 113 6344 ad0 p l e R s0 m args below meth c Q opsS ret r q.1 q.2 :=
    okc (ok_aload_n (j := 1) X (by decide +kernel) rfl rfl) (
    okc (ok_getR (ci := 2) (kf := 0) (idx := 61) (C := RX2) (T := TX2) (N := 4) X rfl (by decide) inX2 (by decide) wf_X10_61 (fun _ _ _ => rfl) (by decide +kernel) rfl) (
    okc (ok_iload_n (j := 2) X (by decide +kernel) rfl rfl) (
    okc (ok_iald X (by decide +kernel) rfl) (
    okc (ok_ifne (off := 5) X (by decide +kernel) (by decide) rfl) (
    okc (ok_iconst (n := 0) X (by decide +kernel) rfl rfl) (
    okc (ok_zret hret (by decide +kernel)) (
    okc (ok_aload_n (j := 0) X (by decide +kernel) rfl rfl) (
    okc (ok_aload_n (j := 0) X (by decide +kernel) rfl rfl) (
    okc (ok_getI (ci := 10) (kf := 3) (idx := 26) (C := RX10) (T := TX10) (N := 4) X rfl (by decide) inX10 (by decide) wf_X10_26 (fun _ _ _ => rfl) (by decide +kernel) rfl) (
    okc (ok_ldc (i := 65) X (by decide +kernel) wk_X10_65 rfl) (
    okc (ok_imul X (by decide +kernel) rfl) (
    okc (ok_sipush (n := 12345) X (by decide +kernel) rfl rfl) (
    okc (ok_iadd X (by decide +kernel) rfl) (
    okc (ok_putI (ci := 10) (kf := 3) (idx := 26) (C := RX10) (T := TX10) (N := 4) X opsS_ok rfl (by decide) inX10 tyX10_ok nmX10 (by decide) wf_X10_26 rfl (fun _ _ _ => rfl) (by decide +kernel) (by decide +kernel) rfl) (
    okc (ok_aload_n (j := 0) X (by decide +kernel) rfl rfl) (
    okc (ok_getI (ci := 10) (kf := 3) (idx := 26) (C := RX10) (T := TX10) (N := 4) X rfl (by decide) inX10 (by decide) wf_X10_26 (fun _ _ _ => rfl) (by decide +kernel) rfl) (
    okc (ok_bipush (n := 8) X (by decide +kernel) rfl rfl) (
    okc (ok_iushr X (by decide +kernel) rfl) (
    okc (ok_bipush (n := 12) X (by decide +kernel) rfl rfl) (
    okc (ok_irem X (by decide +kernel) rfl) (
    okc (ok_aload_n (j := 0) X (by decide +kernel) rfl rfl) (
    okc (ok_getR (ci := 10) (kf := 1) (idx := 22) (C := RX10) (T := TX10) (N := 4) X rfl (by decide) inX10 (by decide) wf_X10_22 (fun _ _ _ => rfl) (by decide +kernel) rfl) (
    okc (ok_aload_n (j := 1) X (by decide +kernel) rfl rfl) (
    okc (ok_iload_n (j := 2) X (by decide +kernel) rfl rfl) (
    okc (ok_aload_n (j := 1) X (by decide +kernel) rfl rfl) (
    okc (ok_getI (ci := 2) (kf := 3) (idx := 42) (C := RX2) (T := TX2) (N := 4) X rfl (by decide) inX2 (by decide) wf_X10_42 (fun _ _ _ => rfl) (by decide +kernel) rfl) (
    okc (ok_callV (ci := 4) (C := RX4) (T := TX4) (N := 4) (Y := (yX4_knownNumber, cX4_knownNumber, 5, (some .int))) X hcal opsS_n md_X4_knownNumber rfl (by decide) rfl wc_X4_knownNumber wl_X10_66 wi_X4 wm_X4_knownNumber wv_X4_knownNumber (by decide +kernel) (hRm 5 (by decide)) (by decide +kernel) rfl) (
    okc (ok_cge (off := 7) X (by decide +kernel) (by decide) rfl) (
    okc (ok_iconst (n := 1) X (by decide +kernel) rfl rfl) (
    okc (ok_goto (off := 4) X (by decide +kernel) (by decide)) (
    okc (ok_iconst (n := 0) X (by decide +kernel) rfl rfl) (
    okc (ok_zret hret (by decide +kernel)) (
    okn)))))))))))))))))))))))))))))))))
noncomputable def es_X10_draws  : List (Nat × En) := [(32, en_X4_knownNumber)]
set_option maxRecDepth 100000 in
set_option maxHeartbeats 4000000 in
theorem eq_X10_draws (d : Nat) (hd : (Nat.beq d 7 || Nat.beq d 30) = true) (a0 : Int32) (s : SS) : ex (tb_X10_draws (calE (es_X10_draws))) rI [] (fun _ _ _ _ => none) 35 0 [some (.ref 29), some (.ref d), some (.int a0)] [] s = f_X10_draws d a0 s := by
  rcases beq2 hd with rfl | rfl <;> rfl
set_option maxRecDepth 100000 in
set_option maxHeartbeats 4000000 in
theorem run_X10_draws {l : Launch} {G : Gm} {d : Nat} (hd : (Nat.beq d 7 || Nat.beq d 30) = true) (a0 : Int32) (s : SS) (q : (Int32 × SS)) (h : f_X10_draws d a0 s = some q) (D' : Nat) (hD : 4 ≤ D') : RunsM l G (D' + 1) (md 92) (embS s) [.ref 29, .ref d, .int a0] (some (.int q.1)) (embS q.2) := by
  rw [md_X10_draws]
  refine runs_Z (plainFor_of_name (by decide +kernel)) (Nat.le_of_ble_eq_true rfl) rfl ?_
  intro A p e R s0 m args below meth c Q ad0 hR X hret
  have X : Cx G A RX10 cX10_draws 3 p s0 m args c := X
  have hT := tk_X10_draws X (calE_ok (es := es_X10_draws) (enc (en_X4_knownNumber_ok _ (by omega)) (enn))) (rmD rfl hR) hret
  rw [← eq_X10_draws d hd a0 s] at h
  refine ex_good hT (fun pc' ls' st' x' hh => ?_) 35 0 _ [] s h
  cases hh

noncomputable def en_X10_draws  : En := fun _ av s k => match av with
  | [.ref r0, .ref d, .int a0] => (gd (Nat.beq r0 29) (gd (Nat.beq d 7 || Nat.beq d 30) (bI (f_X10_draws d a0 s) k)))
  | _ => none
set_option maxRecDepth 100000 in
set_option maxHeartbeats 4000000 in
theorem en_X10_draws_ok {l : Launch} {G : Gm} (D : Nat) (hD : 5 ≤ D) : enOK l G D 92 en_X10_draws := by
  intro ρ av x k r h
  unfold en_X10_draws at h
  split at h
  · obtain ⟨g0, h⟩ := gd_some h
    obtain ⟨g1, h⟩ := gd_some h
    obtain ⟨q, h1, h2⟩ := bind_of h
    have e0 := beq1 g0
    subst e0
    obtain ⟨D', rfl⟩ : ∃ D', D = D' + 1 := ⟨D - 1, by omega⟩
    exact ⟨_, _, h2, run_X10_draws g1 _ _ _ h1 D' (by omega)⟩
  · cases h

/-! HatRank$Wind blowHours -/
noncomputable def tb_X10_blowHours (cal : Cal SS) : List (Nat × Ins SS) := [(0, e_iconst (0) 1), (1, e_istore 4 3), (3, e_iconst (0) 4), (4, e_istore 5 6), (6, e_iload 5 8), (8, e_iload 2 9), (9, e_cge 124 12), (12, e_aload 1 13), (13, e_getI opsS 2 3 16), (16, e_iconst (24) 18), (18, e_cge 124 21), (21, e_aload 0 22), (22, e_aload 1 23), (23, e_callV opsS cal 93 1 10 26), (26, e_iconst (0) 27), (27, e_istore 6 29), (29, e_iload 6 31), (31, e_aload 0 32), (32, e_getR opsS 10 0 35), (35, e_getI opsS 9 0 38), (38, e_cge 108 41), (41, e_aload 0 42), (42, e_aload 1 43), (43, e_iload 6 45), (45, e_callV opsS cal 92 2 10 48), (48, e_ifeq 61 51), (51, e_aload 0 52), (52, e_aload 1 53), (53, e_iload 6 55), (55, e_callV opsS cal 94 2 10 58), (58, e_goto 63), (61, e_iload 6 63), (63, e_istore 7 65), (65, e_iload 7 67), (67, e_iload 6 69), (69, e_ceq 75 72), (72, e_iinc 4 (1) 75), (75, e_aload 3 76), (76, e_ifnull 102 79), (79, e_iload 6 81), (81, e_aload 3 82), (82, e_alen opsS 83), (83, e_cge 102 86), (86, e_aload 3 87), (87, e_iload 6 89), (89, e_iload 7 91), (91, e_ifge 99 94), (94, e_iconst (-2) 96), (96, e_goto 101), (99, e_iload 7 101), (101, e_ast opsS 100 (fun v => v) 102), (102, e_iinc 6 (1) 105), (105, e_goto 29), (108, e_aload 1 109), (109, e_dup 110), (110, e_getI opsS 2 3 113), (113, e_iconst (1) 114), (114, e_bin aAdd 115), (115, e_putI opsS 2 3 118), (118, e_iinc 5 (1) 121), (121, e_goto 6), (124, e_iload 4 126), (126, e_iret)]
set_option maxRecDepth 100000 in
set_option maxHeartbeats 4000000 in
theorem tk_X10_blowHours {ad0 : Nat → Nat} {G : Gm} {A : Nat → Prop} {p : Program} {l : Launch} {e : Env} {R : Room} {s0 : State} {m : MethodId} {args : Array Value} {below : List Frame} {meth : Method} {c : Code} {Q : State → Prop} {ρ : Type} {ret : Option Value → SS → Option ρ} {r : ρ} (X : Cx G A RX10 cX10_blowHours 8 p s0 m args c) {D' : Nat} {cal : Cal SS} (hcal : calOK l G opsS D' cal) (hRm : ∀ k, k ≤ 21 → D' + 1 ≤ R.frames ∧ 8 + (k + 11) + 40 * D' ≤ R.locals) (hret : RetK G A cX10_blowHours 113 6344 ad0 p l e R s0 m args below meth c Q opsS ret r .ireturn okI) : ∀ q ∈ tb_X10_blowHours cal, OKi G A 8 113 6344 ad0 p l e R s0 m args below meth c Q opsS ret r q.1 q.2 :=
    okc (ok_iconst (n := 0) X (by decide +kernel) rfl rfl) (
    okc (ok_istore X (by decide +kernel) rfl) (
    okc (ok_iconst (n := 0) X (by decide +kernel) rfl rfl) (
    okc (ok_istore X (by decide +kernel) rfl) (
    okc (ok_iload X (by decide +kernel) rfl) (
    okc (ok_iload_n (j := 2) X (by decide +kernel) rfl rfl) (
    okc (ok_cge (off := 115) X (by decide +kernel) (by decide) rfl) (
    okc (ok_aload_n (j := 1) X (by decide +kernel) rfl rfl) (
    okc (ok_getI (ci := 2) (kf := 3) (idx := 42) (C := RX2) (T := TX2) (N := 4) X rfl (by decide) inX2 (by decide) wf_X10_42 (fun _ _ _ => rfl) (by decide +kernel) rfl) (
    okc (ok_bipush (n := 24) X (by decide +kernel) rfl rfl) (
    okc (ok_cge (off := 106) X (by decide +kernel) (by decide) rfl) (
    okc (ok_aload_n (j := 0) X (by decide +kernel) rfl rfl) (
    okc (ok_aload_n (j := 1) X (by decide +kernel) rfl rfl) (
    okc (ok_callV (ci := 10) (C := RX10) (T := TX10) (N := 4) (Y := (yX10_takeUp, cX10_takeUp, 4, none)) X hcal opsS_n md_X10_takeUp rfl (by decide) rfl wc_X10_takeUp wl_X10_45 wi_X10 wm_X10_takeUp wv_X10_takeUp (by decide +kernel) (hRm 4 (by decide)) (by decide +kernel) rfl) (
    okc (ok_iconst (n := 0) X (by decide +kernel) rfl rfl) (
    okc (ok_istore X (by decide +kernel) rfl) (
    okc (ok_iload X (by decide +kernel) rfl) (
    okc (ok_aload_n (j := 0) X (by decide +kernel) rfl rfl) (
    okc (ok_getR (ci := 10) (kf := 0) (idx := 18) (C := RX10) (T := TX10) (N := 4) X rfl (by decide) inX10 (by decide) wf_X10_18 (fun _ _ _ => rfl) (by decide +kernel) rfl) (
    okc (ok_getI (ci := 9) (kf := 0) (idx := 48) (C := RX9) (T := TX9) (N := 8) X rfl (by decide) inX9 (by decide) wf_X10_48 (fun _ _ _ => rfl) (by decide +kernel) rfl) (
    okc (ok_cge (off := 70) X (by decide +kernel) (by decide) rfl) (
    okc (ok_aload_n (j := 0) X (by decide +kernel) rfl rfl) (
    okc (ok_aload_n (j := 1) X (by decide +kernel) rfl rfl) (
    okc (ok_iload X (by decide +kernel) rfl) (
    okc (ok_callV (ci := 10) (C := RX10) (T := TX10) (N := 4) (Y := (yX10_draws, cX10_draws, 3, (some .boolean))) X hcal opsS_n md_X10_draws rfl (by decide) rfl wc_X10_draws wl_X10_53 wi_X10 wm_X10_draws wv_X10_draws (by decide +kernel) (hRm 3 (by decide)) (by decide +kernel) rfl) (
    okc (ok_ifeq (off := 13) X (by decide +kernel) (by decide) rfl) (
    okc (ok_aload_n (j := 0) X (by decide +kernel) rfl rfl) (
    okc (ok_aload_n (j := 1) X (by decide +kernel) rfl rfl) (
    okc (ok_iload X (by decide +kernel) rfl) (
    okc (ok_callV (ci := 10) (C := RX10) (T := TX10) (N := 4) (Y := (yX10_fall, cX10_fall, 4, (some .int))) X hcal opsS_n md_X10_fall rfl (by decide) rfl wc_X10_fall wl_X10_57 wi_X10 wm_X10_fall wv_X10_fall (by decide +kernel) (hRm 4 (by decide)) (by decide +kernel) rfl) (
    okc (ok_goto (off := 5) X (by decide +kernel) (by decide)) (
    okc (ok_iload X (by decide +kernel) rfl) (
    okc (ok_istore X (by decide +kernel) rfl) (
    okc (ok_iload X (by decide +kernel) rfl) (
    okc (ok_iload X (by decide +kernel) rfl) (
    okc (ok_ceq (off := 6) X (by decide +kernel) (by decide) rfl) (
    okc (ok_iinc (n := 1) X (by decide +kernel) rfl rfl) (
    okc (ok_aload_n (j := 3) X (by decide +kernel) rfl rfl) (
    okc (ok_ifnull (off := 26) X (by decide +kernel) (by decide) rfl) (
    okc (ok_iload X (by decide +kernel) rfl) (
    okc (ok_aload_n (j := 3) X (by decide +kernel) rfl rfl) (
    okc (ok_alen X (by decide +kernel) rfl) (
    okc (ok_cge (off := 19) X (by decide +kernel) (by decide) rfl) (
    okc (ok_aload_n (j := 3) X (by decide +kernel) rfl rfl) (
    okc (ok_iload X (by decide +kernel) rfl) (
    okc (ok_iload X (by decide +kernel) rfl) (
    okc (ok_ifge (off := 8) X (by decide +kernel) (by decide) rfl) (
    okc (ok_bipush (n := -2) X (by decide +kernel) rfl rfl) (
    okc (ok_goto (off := 5) X (by decide +kernel) (by decide)) (
    okc (ok_iload X (by decide +kernel) rfl) (
    okc (ok_iast X opsS_ok (by decide +kernel) rfl) (
    okc (ok_iinc (n := 1) X (by decide +kernel) rfl rfl) (
    okc (ok_goto (off := -76) X (by decide +kernel) (by decide)) (
    okc (ok_aload_n (j := 1) X (by decide +kernel) rfl rfl) (
    okc (ok_dup X (by decide +kernel) rfl) (
    okc (ok_getI (ci := 2) (kf := 3) (idx := 42) (C := RX2) (T := TX2) (N := 4) X rfl (by decide) inX2 (by decide) wf_X10_42 (fun _ _ _ => rfl) (by decide +kernel) rfl) (
    okc (ok_iconst (n := 1) X (by decide +kernel) rfl rfl) (
    okc (ok_iadd X (by decide +kernel) rfl) (
    okc (ok_putI (ci := 2) (kf := 3) (idx := 42) (C := RX2) (T := TX2) (N := 4) X opsS_ok rfl (by decide) inX2 tyX2_ok nmX2 (by decide) wf_X10_42 rfl (fun _ _ _ => rfl) (by decide +kernel) (by decide +kernel) rfl) (
    okc (ok_iinc (n := 1) X (by decide +kernel) rfl rfl) (
    okc (ok_goto (off := -115) X (by decide +kernel) (by decide)) (
    okc (ok_iload X (by decide +kernel) rfl) (
    okc (ok_iret hret (by decide +kernel)) (
    okn)))))))))))))))))))))))))))))))))))))))))))))))))))))))))))))))
noncomputable def es_X10_blowHours  : List (Nat × En) := [(93, en_X10_takeUp), (92, en_X10_draws), (94, en_X10_fall)]
noncomputable def ka_X10_blowHours_29 (d : Nat) (b : Bool) (k6 : Int32 → Int32 → Int32 → SS → Option (Int32 × SS)) (n : Nat) : Kn SS (Int32 × SS) := fun pc ls st s => bif Nat.beq pc 6 then (match ls, st with
    | [some y0, some y1, some (.int x2), some y3, some (.int x4), some (.int x5), _, _], [] => (gd (veq y0 (.ref 29)) (gd (veq y1 (.ref d)) (gd (veq y3 ((bif b then .ref 69 else .null))) (k6 x2 x4 x5 s))))
    | _, _ => none) else (bif Nat.beq pc 29 then (match ls, st with
    | [some y0, some y1, some (.int x2), some y3, some (.int x4), some (.int x5), some (.int x6), _], [] => (gd (veq y0 (.ref 29)) (gd (veq y1 (.ref d)) (gd (veq y3 ((bif b then .ref 69 else .null))) (F_X10_blowHours_29 d b k6 n x2 x4 x5 x6 s))))
    | _, _ => none) else (none))
set_option maxRecDepth 100000 in
set_option maxHeartbeats 4000000 in
theorem eq_X10_blowHours_29 (d : Nat) (b : Bool) (k6 : Int32 → Int32 → Int32 → SS → Option (Int32 × SS)) (hd : (Nat.beq d 7 || Nat.beq d 30) = true) (n : Nat) (x2 : Int32) (x4 : Int32) (x5 : Int32) (x6 : Int32) (s : SS) : ex (tb_X10_blowHours (calE (es_X10_blowHours))) rI [6, 29] (ka_X10_blowHours_29 d b k6 n) 65 29 [some (.ref 29), some (.ref d), some (.int x2), some ((bif b then .ref 69 else .null)), some (.int x4), some (.int x5), some (.int x6), none] [] s = F_X10_blowHours_29 d b k6 (n + 1) x2 x4 x5 x6 s := by
  rcases beq2 hd with rfl | rfl <;> cases b <;> rfl
noncomputable def ka_X10_blowHours_6 (d : Nat) (b : Bool)  (n : Nat) : Kn SS (Int32 × SS) := fun pc ls st s => bif Nat.beq pc 29 then (match ls, st with
    | [some y0, some y1, some (.int x2), some y3, some (.int x4), some (.int x5), some (.int x6), _], [] => (gd (veq y0 (.ref 29)) (gd (veq y1 (.ref d)) (gd (veq y3 ((bif b then .ref 69 else .null))) (F_X10_blowHours_29 d b (F_X10_blowHours_6 d b n) fuel0 x2 x4 x5 x6 s))))
    | _, _ => none) else (none)
set_option maxRecDepth 100000 in
set_option maxHeartbeats 4000000 in
theorem eq_X10_blowHours_6 (d : Nat) (b : Bool)  (hd : (Nat.beq d 7 || Nat.beq d 30) = true) (n : Nat) (x2 : Int32) (x4 : Int32) (x5 : Int32) (s : SS) : ex (tb_X10_blowHours (calE (es_X10_blowHours))) rI [6, 29] (ka_X10_blowHours_6 d b  n) 65 6 [some (.ref 29), some (.ref d), some (.int x2), some ((bif b then .ref 69 else .null)), some (.int x4), some (.int x5), none, none] [] s = F_X10_blowHours_6 d b  (n + 1) x2 x4 x5 s := by
  rcases beq2 hd with rfl | rfl <;> cases b <;> rfl
set_option maxRecDepth 100000 in
set_option maxHeartbeats 4000000 in
theorem gd_X10_blowHours_29 {ad0 : Nat → Nat} {G : Gm} {A : Nat → Prop} {p : Program} {l : Launch} {e : Env} {R : Room} {s0 : State} {m : MethodId} {args : Array Value} {below : List Frame} {meth : Method} {c : Code} {Q : State → Prop} {r : (Int32 × SS)} {d : Nat} {b : Bool} {k6 : Int32 → Int32 → Int32 → SS → Option (Int32 × SS)} (hT : ∀ q ∈ tb_X10_blowHours (calE (es_X10_blowHours)), OKi G A 8 113 6344 ad0 p l e R s0 m args below meth c Q opsS rI r q.1 q.2) (hk6 : ∀ (x2 : Int32) (x4 : Int32) (x5 : Int32) (s : SS), k6 x2 x4 x5 s = some r → Gd G A 8 113 6344 ad0 p l e R s0 m args below meth c Q opsS 6 [some (.ref 29), some (.ref d), some (.int x2), some ((bif b then .ref 69 else .null)), some (.int x4), some (.int x5), none, none] [] s) (hd : (Nat.beq d 7 || Nat.beq d 30) = true) : ∀ (n : Nat) (x2 : Int32) (x4 : Int32) (x5 : Int32) (x6 : Int32) (s : SS), F_X10_blowHours_29 d b k6 n x2 x4 x5 x6 s = some r → Gd G A 8 113 6344 ad0 p l e R s0 m args below meth c Q opsS 29 [some (.ref 29), some (.ref d), some (.int x2), some ((bif b then .ref 69 else .null)), some (.int x4), some (.int x5), some (.int x6), none] [] s := by
  intro n
  induction n with
  | zero =>
    intro x2 x4 x5 x6 s hh
    exact absurd (show (none : Option (Int32 × SS)) = some r from hh) (by simp)
  | succ n ih =>
    intro x2 x4 x5 x6 s hh
    rw [← eq_X10_blowHours_29 d b k6 hd n x2 x4 x5 x6 s] at hh
    refine ex_good hT (fun pc' ls' st' x' hh => ?_) 65 29 _ [] s hh
    unfold ka_X10_blowHours_29 at hh
    cases hb : Nat.beq pc' 6 with
    | true =>
      rw [hb] at hh
      have e9 := beq1 hb
      subst e9
      simp only [cond_true] at hh
      split at hh
      · obtain ⟨g0, hh1⟩ := gd_some hh
        have e0 := veq_of g0
        subst e0
        obtain ⟨g1, hh2⟩ := gd_some hh1
        have e1 := veq_of g1
        subst e1
        obtain ⟨g2, hh3⟩ := gd_some hh2
        have e2 := veq_of g2
        subst e2
        exact Gd.wk (hk6 _ _ _ _ hh3) (Lle.eq (Lle.eq (Lle.eq (Lle.eq (Lle.eq (Lle.eq (Lle.no (Lle.no Lle.nil))))))))
      · cases hh
    | false =>
      rw [hb] at hh
      simp only [cond_false] at hh
      cases hb : Nat.beq pc' 29 with
      | true =>
        rw [hb] at hh
        have e9 := beq1 hb
        subst e9
        simp only [cond_true] at hh
        split at hh
        · obtain ⟨g0, hh1⟩ := gd_some hh
          have e0 := veq_of g0
          subst e0
          obtain ⟨g1, hh2⟩ := gd_some hh1
          have e1 := veq_of g1
          subst e1
          obtain ⟨g2, hh3⟩ := gd_some hh2
          have e2 := veq_of g2
          subst e2
          exact Gd.wk (ih _ _ _ _ _ hh3) (Lle.eq (Lle.eq (Lle.eq (Lle.eq (Lle.eq (Lle.eq (Lle.eq (Lle.no Lle.nil))))))))
        · cases hh
      | false =>
        rw [hb] at hh
        simp only [cond_false] at hh
        cases hh

set_option maxRecDepth 100000 in
set_option maxHeartbeats 4000000 in
theorem gd_X10_blowHours_6 {ad0 : Nat → Nat} {G : Gm} {A : Nat → Prop} {p : Program} {l : Launch} {e : Env} {R : Room} {s0 : State} {m : MethodId} {args : Array Value} {below : List Frame} {meth : Method} {c : Code} {Q : State → Prop} {r : (Int32 × SS)} {d : Nat} {b : Bool}  (hT : ∀ q ∈ tb_X10_blowHours (calE (es_X10_blowHours)), OKi G A 8 113 6344 ad0 p l e R s0 m args below meth c Q opsS rI r q.1 q.2)  (hd : (Nat.beq d 7 || Nat.beq d 30) = true) : ∀ (n : Nat) (x2 : Int32) (x4 : Int32) (x5 : Int32) (s : SS), F_X10_blowHours_6 d b  n x2 x4 x5 s = some r → Gd G A 8 113 6344 ad0 p l e R s0 m args below meth c Q opsS 6 [some (.ref 29), some (.ref d), some (.int x2), some ((bif b then .ref 69 else .null)), some (.int x4), some (.int x5), none, none] [] s := by
  intro n
  induction n with
  | zero =>
    intro x2 x4 x5 s hh
    exact absurd (show (none : Option (Int32 × SS)) = some r from hh) (by simp)
  | succ n ih =>
    intro x2 x4 x5 s hh
    rw [← eq_X10_blowHours_6 d b  hd n x2 x4 x5 s] at hh
    refine ex_good hT (fun pc' ls' st' x' hh => ?_) 65 6 _ [] s hh
    unfold ka_X10_blowHours_6 at hh
    cases hb : Nat.beq pc' 29 with
    | true =>
      rw [hb] at hh
      have e9 := beq1 hb
      subst e9
      simp only [cond_true] at hh
      split at hh
      · obtain ⟨g0, hh1⟩ := gd_some hh
        have e0 := veq_of g0
        subst e0
        obtain ⟨g1, hh2⟩ := gd_some hh1
        have e1 := veq_of g1
        subst e1
        obtain ⟨g2, hh3⟩ := gd_some hh2
        have e2 := veq_of g2
        subst e2
        exact Gd.wk (gd_X10_blowHours_29 hT  ih hd _ _ _ _ _ _ hh3) (Lle.eq (Lle.eq (Lle.eq (Lle.eq (Lle.eq (Lle.eq (Lle.eq (Lle.no Lle.nil))))))))
      · cases hh
    | false =>
      rw [hb] at hh
      simp only [cond_false] at hh
      cases hh

noncomputable def ka_X10_blowHours (d : Nat) (b : Bool) : Kn SS (Int32 × SS) := fun pc ls st s => bif Nat.beq pc 6 then (match ls, st with
    | [some y0, some y1, some (.int x2), some y3, some (.int x4), some (.int x5), _, _], [] => (gd (veq y0 (.ref 29)) (gd (veq y1 (.ref d)) (gd (veq y3 ((bif b then .ref 69 else .null))) (F_X10_blowHours_6 d b fuel0 x2 x4 x5 s))))
    | _, _ => none) else (none)
set_option maxRecDepth 100000 in
set_option maxHeartbeats 4000000 in
theorem eq_X10_blowHours (d : Nat) (b : Bool) (hd : (Nat.beq d 7 || Nat.beq d 30) = true) (a0 : Int32) (s : SS) : ex (tb_X10_blowHours (calE (es_X10_blowHours))) rI [6, 29] (ka_X10_blowHours d b) 65 0 [some (.ref 29), some (.ref d), some (.int a0), some ((bif b then .ref 69 else .null)), none, none, none, none] [] s = f_X10_blowHours d b a0 s := by
  rcases beq2 hd with rfl | rfl <;> cases b <;> rfl
set_option maxRecDepth 100000 in
set_option maxHeartbeats 4000000 in
theorem run_X10_blowHours {l : Launch} {G : Gm} {d : Nat} {b : Bool} (hd : (Nat.beq d 7 || Nat.beq d 30) = true) (a0 : Int32) (s : SS) (q : (Int32 × SS)) (h : f_X10_blowHours d b a0 s = some q) (D' : Nat) (hD : 5 ≤ D') : RunsM l G (D' + 1) (md 91) (embS s) [.ref 29, .ref d, .int a0, (bif b then .ref 69 else .null)] (some (.int q.1)) (embS q.2) := by
  cases b with
  | false =>
    rw [md_X10_blowHours]
    refine runs_I (plainFor_of_name (by decide +kernel)) (Nat.le_of_ble_eq_true rfl) rfl ?_
    intro A p e R s0 m args below meth c Q ad0 hR X hret
    have X : Cx G A RX10 cX10_blowHours 8 p s0 m args c := X
    have hT := tk_X10_blowHours X (calE_ok (es := es_X10_blowHours) (enc (en_X10_takeUp_ok _ (by omega)) (enc (en_X10_draws_ok _ (by omega)) (enc (en_X10_fall_ok _ (by omega)) (enn))))) (rmD rfl hR) hret
    rw [← eq_X10_blowHours d _ hd a0 s] at h
    refine ex_good hT (fun pc' ls' st' x' hh => ?_) 65 0 _ [] s h
    unfold ka_X10_blowHours at hh
    cases hb : Nat.beq pc' 6 with
    | true =>
      rw [hb] at hh
      have e9 := beq1 hb
      subst e9
      simp only [cond_true] at hh
      split at hh
      · obtain ⟨g0, hh1⟩ := gd_some hh
        have e0 := veq_of g0
        subst e0
        obtain ⟨g1, hh2⟩ := gd_some hh1
        have e1 := veq_of g1
        subst e1
        obtain ⟨g2, hh3⟩ := gd_some hh2
        have e2 := veq_of g2
        subst e2
        exact Gd.wk (gd_X10_blowHours_6 hT hd _ _ _ _ _ hh3) (Lle.eq (Lle.eq (Lle.eq (Lle.eq (Lle.eq (Lle.eq (Lle.no (Lle.no Lle.nil))))))))
      · cases hh
    | false =>
      rw [hb] at hh
      simp only [cond_false] at hh
      cases hh
  | true =>
    rw [md_X10_blowHours]
    refine runs_I (plainFor_of_name (by decide +kernel)) (Nat.le_of_ble_eq_true rfl) rfl ?_
    intro A p e R s0 m args below meth c Q ad0 hR X hret
    have X : Cx G A RX10 cX10_blowHours 8 p s0 m args c := X
    have hT := tk_X10_blowHours X (calE_ok (es := es_X10_blowHours) (enc (en_X10_takeUp_ok _ (by omega)) (enc (en_X10_draws_ok _ (by omega)) (enc (en_X10_fall_ok _ (by omega)) (enn))))) (rmD rfl hR) hret
    rw [← eq_X10_blowHours d _ hd a0 s] at h
    refine ex_good hT (fun pc' ls' st' x' hh => ?_) 65 0 _ [] s h
    unfold ka_X10_blowHours at hh
    cases hb : Nat.beq pc' 6 with
    | true =>
      rw [hb] at hh
      have e9 := beq1 hb
      subst e9
      simp only [cond_true] at hh
      split at hh
      · obtain ⟨g0, hh1⟩ := gd_some hh
        have e0 := veq_of g0
        subst e0
        obtain ⟨g1, hh2⟩ := gd_some hh1
        have e1 := veq_of g1
        subst e1
        obtain ⟨g2, hh3⟩ := gd_some hh2
        have e2 := veq_of g2
        subst e2
        exact Gd.wk (gd_X10_blowHours_6 hT hd _ _ _ _ _ hh3) (Lle.eq (Lle.eq (Lle.eq (Lle.eq (Lle.eq (Lle.eq (Lle.no (Lle.no Lle.nil))))))))
      · cases hh
    | false =>
      rw [hb] at hh
      simp only [cond_false] at hh
      cases hh

noncomputable def en_X10_blowHours  : En := fun _ av s k => match av with
  | [.ref r0, .ref d, .int a0, .null] => (gd (Nat.beq r0 29) (gd (Nat.beq d 7 || Nat.beq d 30) (bI (f_X10_blowHours d false a0 s) k)))
  | [.ref r0, .ref d, .int a0, .ref r3] => (gd (Nat.beq r0 29) (gd (Nat.beq d 7 || Nat.beq d 30) (gd (Nat.beq r3 69) (bI (f_X10_blowHours d true a0 s) k))))
  | _ => none
set_option maxRecDepth 100000 in
set_option maxHeartbeats 4000000 in
theorem en_X10_blowHours_ok {l : Launch} {G : Gm} (D : Nat) (hD : 6 ≤ D) : enOK l G D 91 en_X10_blowHours := by
  intro ρ av x k r h
  unfold en_X10_blowHours at h
  split at h
  · obtain ⟨g0, h⟩ := gd_some h
    obtain ⟨g1, h⟩ := gd_some h
    obtain ⟨q, h1, h2⟩ := bind_of h
    have e0 := beq1 g0
    subst e0
    obtain ⟨D', rfl⟩ : ∃ D', D = D' + 1 := ⟨D - 1, by omega⟩
    exact ⟨_, _, h2, run_X10_blowHours g1 _ _ _ h1 D' (by omega)⟩
  · obtain ⟨g0, h⟩ := gd_some h
    obtain ⟨g1, h⟩ := gd_some h
    obtain ⟨g2, h⟩ := gd_some h
    obtain ⟨q, h1, h2⟩ := bind_of h
    have e0 := beq1 g0
    subst e0
    have e2 := beq1 g2
    subst e2
    obtain ⟨D', rfl⟩ : ∃ D', D = D' + 1 := ⟨D - 1, by omega⟩
    exact ⟨_, _, h2, run_X10_blowHours g1 _ _ _ h1 D' (by omega)⟩
  · cases h

/-! HatRank$Wind think -/
noncomputable def tb_X10_think (cal : Cal SS) : List (Nat × Ins SS) := [(0, e_aload 0 1), (1, e_getR opsS 10 2 4), (4, e_aload 1 5), (5, e_callV opsS cal 18 1 2 8), (8, e_aload 0 9), (9, e_iload 2 10), (10, e_callV opsS cal 89 1 10 13), (13, e_aload 0 14), (14, e_aload 0 15), (15, e_getR opsS 10 2 18), (18, e_iload 3 19), (19, e_null 20), (20, e_callV opsS cal 91 3 10 23), (23, e_pop 24), (24, e_aload 0 25), (25, e_getR opsS 10 2 28), (28, e_aret)]
set_option maxRecDepth 100000 in
set_option maxHeartbeats 4000000 in
theorem tk_X10_think {ad0 : Nat → Nat} {G : Gm} {A : Nat → Prop} {p : Program} {l : Launch} {e : Env} {R : Room} {s0 : State} {m : MethodId} {args : Array Value} {below : List Frame} {meth : Method} {c : Code} {Q : State → Prop} {ρ : Type} {ret : Option Value → SS → Option ρ} {r : ρ} (X : Cx G A RX10 cX10_think 4 p s0 m args c) {D' : Nat} {cal : Cal SS} (hcal : calOK l G opsS D' cal) (hRm : ∀ k, k ≤ 21 → D' + 1 ≤ R.frames ∧ 8 + (k + 11) + 40 * D' ≤ R.locals) (hret : RetK G A cX10_think 113 6344 ad0 p l e R s0 m args below meth c Q opsS ret r .areturn okA) : ∀ q ∈ tb_X10_think cal, OKi G A 4 113 6344 ad0 p l e R s0 m args below meth c Q opsS ret r q.1 q.2 :=
    okc (ok_aload_n (j := 0) X (by decide +kernel) rfl rfl) (
    okc (ok_getR (ci := 10) (kf := 2) (idx := 12) (C := RX10) (T := TX10) (N := 4) X rfl (by decide) inX10 (by decide) wf_X10_12 (fun _ _ _ => rfl) (by decide +kernel) rfl) (
    okc (ok_aload_n (j := 1) X (by decide +kernel) rfl rfl) (
    okc (ok_callV (ci := 2) (C := RX2) (T := TX2) (N := 4) (Y := (yX2_become, cX2_become, 2, none)) X hcal opsS_n md_X2_become rfl (by decide) rfl wc_X2_become wl_X10_30 wi_X2 wm_X2_become wv_X2_become (by decide +kernel) (hRm 2 (by decide)) (by decide +kernel) rfl) (
    okc (ok_aload_n (j := 0) X (by decide +kernel) rfl rfl) (
    okc (ok_iload_n (j := 2) X (by decide +kernel) rfl rfl) (
    okc (ok_callV (ci := 10) (C := RX10) (T := TX10) (N := 4) (Y := (yX10_begin, cX10_begin, 2, none)) X hcal opsS_n md_X10_begin rfl (by decide) rfl wc_X10_begin wl_X10_34 wi_X10 wm_X10_begin wv_X10_begin (by decide +kernel) (hRm 2 (by decide)) (by decide +kernel) rfl) (
    okc (ok_aload_n (j := 0) X (by decide +kernel) rfl rfl) (
    okc (ok_aload_n (j := 0) X (by decide +kernel) rfl rfl) (
    okc (ok_getR (ci := 10) (kf := 2) (idx := 12) (C := RX10) (T := TX10) (N := 4) X rfl (by decide) inX10 (by decide) wf_X10_12 (fun _ _ _ => rfl) (by decide +kernel) rfl) (
    okc (ok_iload_n (j := 3) X (by decide +kernel) rfl rfl) (
    okc (ok_null X (by decide +kernel) rfl) (
    okc (ok_callV (ci := 10) (C := RX10) (T := TX10) (N := 4) (Y := (yX10_blowHours, cX10_blowHours, 8, (some .int))) X hcal opsS_n md_X10_blowHours rfl (by decide) rfl wc_X10_blowHours wl_X10_38 wi_X10 wm_X10_blowHours wv_X10_blowHours (by decide +kernel) (hRm 8 (by decide)) (by decide +kernel) rfl) (
    okc (ok_pop X (by decide +kernel) rfl) (
    okc (ok_aload_n (j := 0) X (by decide +kernel) rfl rfl) (
    okc (ok_getR (ci := 10) (kf := 2) (idx := 12) (C := RX10) (T := TX10) (N := 4) X rfl (by decide) inX10 (by decide) wf_X10_12 (fun _ _ _ => rfl) (by decide +kernel) rfl) (
    okc (ok_aret hret (by decide +kernel)) (
    okn)))))))))))))))))
noncomputable def es_X10_think  : List (Nat × En) := [(18, en_X2_become), (89, en_X10_begin), (91, en_X10_blowHours)]
set_option maxRecDepth 100000 in
set_option maxHeartbeats 4000000 in
theorem eq_X10_think (d : Nat) (hd : (Nat.beq d 7) = true) (a0 : Int32) (a1 : Int32) (s : SS) : ex (tb_X10_think (calE (es_X10_think))) rT [] (fun _ _ _ _ => none) 19 0 [some (.ref 29), some (.ref d), some (.int a0), some (.int a1)] [] s = f_X10_think d a0 a1 s := by
  rcases beq1 hd with rfl <;> rfl
set_option maxRecDepth 100000 in
set_option maxHeartbeats 4000000 in
theorem run_X10_think {l : Launch} {G : Gm} {d : Nat} (hd : (Nat.beq d 7) = true) (a0 : Int32) (a1 : Int32) (s : SS) (q : SS) (h : f_X10_think d a0 a1 s = some q) (D' : Nat) (hD : 6 ≤ D') : RunsM l G (D' + 1) (md 90) (embS s) [.ref 29, .ref d, .int a0, .int a1] (some (.ref 30)) (embS q) := by
  rw [md_X10_think]
  refine runs_T (plainFor_of_name (by decide +kernel)) (Nat.le_of_ble_eq_true rfl) rfl ?_
  intro A p e R s0 m args below meth c Q ad0 hR X hret
  have X : Cx G A RX10 cX10_think 4 p s0 m args c := X
  have hT := tk_X10_think X (calE_ok (es := es_X10_think) (enc (en_X2_become_ok _ (by omega)) (enc (en_X10_begin_ok _ (by omega)) (enc (en_X10_blowHours_ok _ (by omega)) (enn))))) (rmD rfl hR) hret
  rw [← eq_X10_think d hd a0 a1 s] at h
  refine ex_good hT (fun pc' ls' st' x' hh => ?_) 19 0 _ [] s h
  cases hh

noncomputable def en_X10_think  : En := fun _ av s k => match av with
  | [.ref r0, .ref d, .int a0, .int a1] => (gd (Nat.beq r0 29) (gd (Nat.beq d 7) (bT (f_X10_think d a0 a1 s) k)))
  | _ => none
set_option maxRecDepth 100000 in
set_option maxHeartbeats 4000000 in
theorem en_X10_think_ok {l : Launch} {G : Gm} (D : Nat) (hD : 7 ≤ D) : enOK l G D 90 en_X10_think := by
  intro ρ av x k r h
  unfold en_X10_think at h
  split at h
  · obtain ⟨g0, h⟩ := gd_some h
    obtain ⟨g1, h⟩ := gd_some h
    obtain ⟨q, h1, h2⟩ := bind_of h
    have e0 := beq1 g0
    subst e0
    obtain ⟨D', rfl⟩ : ∃ D', D = D' + 1 := ⟨D - 1, by omega⟩
    exact ⟨_, _, h2, run_X10_think g1 _ _ _ _ h1 D' (by omega)⟩
  · cases h

