/-! java/util/Arrays fill -/
noncomputable def tb_J7_fill_53178 (cal : Cal SS) : List (Nat × Ins SS) := [(0, e_iconst (0) 1), (1, e_istore 2 2), (2, e_aload 0 3), (3, e_alen opsS 4), (4, e_istore 3 5), (5, e_iload 2 6), (6, e_iload 3 7), (7, e_cge 20 10), (10, e_aload 0 11), (11, e_iload 2 12), (12, e_iload 1 13), (13, e_ast opsS 100 (fun v => v) 14), (14, e_iinc 2 (1) 17), (17, e_goto 5), (20, e_vret)]
set_option maxRecDepth 100000 in
set_option maxHeartbeats 4000000 in
theorem tk_J7_fill_53178 {ad0 : Nat → Nat} {G : Gm} {A : Nat → Prop} {p : Program} {l : Launch} {e : Env} {R : Room} {s0 : State} {m : MethodId} {args : Array Value} {below : List Frame} {meth : Method} {c : Code} {Q : State → Prop} {ρ : Type} {ret : Option Value → SS → Option ρ} {r : ρ} (X : Cx G A RJ7 cJ7_fill_53178 4 p s0 m args c) {D' : Nat} {cal : Cal SS} (hcal : calOK l G opsS D' cal) (hRm : ∀ k, k ≤ 21 → D' + 1 ≤ R.frames ∧ 8 + (k + 11) + 40 * D' ≤ R.locals) (hret : RetK G A cJ7_fill_53178 113 6344 ad0 p l e R s0 m args below meth c Q opsS ret r .return_ okV) : ∀ q ∈ tb_J7_fill_53178 cal, OKi G A 4 113 6344 ad0 p l e R s0 m args below meth c Q opsS ret r q.1 q.2 :=
    okc (ok_iconst (n := 0) X (by decide +kernel) rfl rfl) (
    okc (ok_istore_n (j := 2) X (by decide +kernel) rfl rfl) (
    okc (ok_aload_n (j := 0) X (by decide +kernel) rfl rfl) (
    okc (ok_alen X (by decide +kernel) rfl) (
    okc (ok_istore_n (j := 3) X (by decide +kernel) rfl rfl) (
    okc (ok_iload_n (j := 2) X (by decide +kernel) rfl rfl) (
    okc (ok_iload_n (j := 3) X (by decide +kernel) rfl rfl) (
    okc (ok_cge (off := 13) X (by decide +kernel) (by decide) rfl) (
    okc (ok_aload_n (j := 0) X (by decide +kernel) rfl rfl) (
    okc (ok_iload_n (j := 2) X (by decide +kernel) rfl rfl) (
    okc (ok_iload_n (j := 1) X (by decide +kernel) rfl rfl) (
    okc (ok_iast X opsS_ok (by decide +kernel) rfl) (
    okc (ok_iinc (n := 1) X (by decide +kernel) rfl rfl) (
    okc (ok_goto (off := -12) X (by decide +kernel) (by decide)) (
    okc (ok_vret hret (by decide +kernel)) (
    okn)))))))))))))))
noncomputable def es_J7_fill_53178  : List (Nat × En) := []
noncomputable def ka_J7_fill_53178_5 (d : Nat)  (n : Nat) : Kn SS SS := fun pc ls st s => bif Nat.beq pc 5 then (match ls, st with
    | [some y0, some (.int x1), some (.int x2), some (.int x3)], [] => (gd (veq y0 (.ref d)) (F_J7_fill_53178_5 d n x1 x2 x3 s))
    | _, _ => none) else (none)
set_option maxRecDepth 100000 in
set_option maxHeartbeats 4000000 in
theorem eq_J7_fill_53178_5 (d : Nat)  (hd : (Nat.beq d 28) = true) (n : Nat) (x1 : Int32) (x2 : Int32) (x3 : Int32) (s : SS) : ex (tb_J7_fill_53178 (calE (es_J7_fill_53178))) rV [5] (ka_J7_fill_53178_5 d  n) 17 5 [some (.ref d), some (.int x1), some (.int x2), some (.int x3)] [] s = F_J7_fill_53178_5 d  (n + 1) x1 x2 x3 s := by
  rcases beq1 hd with rfl <;> rfl
set_option maxRecDepth 100000 in
set_option maxHeartbeats 4000000 in
theorem gd_J7_fill_53178_5 {ad0 : Nat → Nat} {G : Gm} {A : Nat → Prop} {p : Program} {l : Launch} {e : Env} {R : Room} {s0 : State} {m : MethodId} {args : Array Value} {below : List Frame} {meth : Method} {c : Code} {Q : State → Prop} {r : SS} {d : Nat}  (hT : ∀ q ∈ tb_J7_fill_53178 (calE (es_J7_fill_53178)), OKi G A 4 113 6344 ad0 p l e R s0 m args below meth c Q opsS rV r q.1 q.2)  (hd : (Nat.beq d 28) = true) : ∀ (n : Nat) (x1 : Int32) (x2 : Int32) (x3 : Int32) (s : SS), F_J7_fill_53178_5 d  n x1 x2 x3 s = some r → Gd G A 4 113 6344 ad0 p l e R s0 m args below meth c Q opsS 5 [some (.ref d), some (.int x1), some (.int x2), some (.int x3)] [] s := by
  intro n
  induction n with
  | zero =>
    intro x1 x2 x3 s hh
    exact absurd (show (none : Option SS) = some r from hh) (by simp)
  | succ n ih =>
    intro x1 x2 x3 s hh
    rw [← eq_J7_fill_53178_5 d  hd n x1 x2 x3 s] at hh
    refine ex_good hT (fun pc' ls' st' x' hh => ?_) 17 5 _ [] s hh
    unfold ka_J7_fill_53178_5 at hh
    cases hb : Nat.beq pc' 5 with
    | true =>
      rw [hb] at hh
      have e9 := beq1 hb
      subst e9
      simp only [cond_true] at hh
      split at hh
      · obtain ⟨g0, hh1⟩ := gd_some hh
        have e0 := veq_of g0
        subst e0
        exact Gd.wk (ih _ _ _ _ hh1) (Lle.eq (Lle.eq (Lle.eq (Lle.eq Lle.nil))))
      · cases hh
    | false =>
      rw [hb] at hh
      simp only [cond_false] at hh
      cases hh

noncomputable def ka_J7_fill_53178 (d : Nat) : Kn SS SS := fun pc ls st s => bif Nat.beq pc 5 then (match ls, st with
    | [some y0, some (.int x1), some (.int x2), some (.int x3)], [] => (gd (veq y0 (.ref d)) (F_J7_fill_53178_5 d fuel0 x1 x2 x3 s))
    | _, _ => none) else (none)
set_option maxRecDepth 100000 in
set_option maxHeartbeats 4000000 in
theorem eq_J7_fill_53178 (d : Nat) (hd : (Nat.beq d 28) = true) (a0 : Int32) (s : SS) : ex (tb_J7_fill_53178 (calE (es_J7_fill_53178))) rV [5] (ka_J7_fill_53178 d) 17 0 [some (.ref d), some (.int a0), none, none] [] s = f_J7_fill_53178 d a0 s := by
  rcases beq1 hd with rfl <;> rfl
set_option maxRecDepth 100000 in
set_option maxHeartbeats 4000000 in
theorem run_J7_fill_53178 {l : Launch} {G : Gm} {d : Nat} (hd : (Nat.beq d 28) = true) (a0 : Int32) (s : SS) (q : SS) (h : f_J7_fill_53178 d a0 s = some q) (D' : Nat) (hD : 0 ≤ D') : RunsM l G (D' + 1) (md 266) (embS s) [.ref d, .int a0] none (embS q) := by
  rw [md_J7_fill_53178]
  refine runs_V (by decide +kernel) (Nat.le_of_ble_eq_true rfl) rfl ?_
  intro A p e R s0 m args below meth c Q ad0 hR X hret
  have X : Cx G A RJ7 cJ7_fill_53178 4 p s0 m args c := X
  have hT := tk_J7_fill_53178 X (calE_ok (es := es_J7_fill_53178) (enn)) (rmD rfl hR) hret
  rw [← eq_J7_fill_53178 d hd a0 s] at h
  refine ex_good hT (fun pc' ls' st' x' hh => ?_) 17 0 _ [] s h
  unfold ka_J7_fill_53178 at hh
  cases hb : Nat.beq pc' 5 with
  | true =>
    rw [hb] at hh
    have e9 := beq1 hb
    subst e9
    simp only [cond_true] at hh
    split at hh
    · obtain ⟨g0, hh1⟩ := gd_some hh
      have e0 := veq_of g0
      subst e0
      exact Gd.wk (gd_J7_fill_53178_5 hT hd _ _ _ _ _ hh1) (Lle.eq (Lle.eq (Lle.eq (Lle.eq Lle.nil))))
    · cases hh
  | false =>
    rw [hb] at hh
    simp only [cond_false] at hh
    cases hh

noncomputable def en_J7_fill_53178  : En := fun _ av s k => match av with
  | [.ref d, .int a0] => (gd (Nat.beq d 28) (bV (f_J7_fill_53178 d a0 s) k))
  | _ => none
set_option maxRecDepth 100000 in
set_option maxHeartbeats 4000000 in
theorem en_J7_fill_53178_ok {l : Launch} {G : Gm} (D : Nat) (hD : 1 ≤ D) : enOK l G D 266 en_J7_fill_53178 := by
  intro ρ av x k r h
  unfold en_J7_fill_53178 at h
  split at h
  · obtain ⟨g0, h⟩ := gd_some h
    obtain ⟨q, h1, h2⟩ := bind_of h
    obtain ⟨D', rfl⟩ : ∃ D', D = D' + 1 := ⟨D - 1, by omega⟩
    exact ⟨_, _, h2, run_J7_fill_53178 g0 _ _ _ h1 D' (by omega)⟩
  · cases h

/-! java/lang/Math max -/
noncomputable def tb_J9_max_7cf53 (cal : Cal SS) : List (Nat × Ins SS) := [(0, e_iload 0 1), (1, e_iload 1 2), (2, e_clt 9 5), (5, e_iload 0 6), (6, e_goto 10), (9, e_iload 1 10), (10, e_iret)]
set_option maxRecDepth 100000 in
set_option maxHeartbeats 4000000 in
theorem tk_J9_max_7cf53 {ad0 : Nat → Nat} {G : Gm} {A : Nat → Prop} {p : Program} {l : Launch} {e : Env} {R : Room} {s0 : State} {m : MethodId} {args : Array Value} {below : List Frame} {meth : Method} {c : Code} {Q : State → Prop} {ρ : Type} {ret : Option Value → SS → Option ρ} {r : ρ} (X : Cx G A RJ9 cJ9_max_7cf53 2 p s0 m args c) {D' : Nat} {cal : Cal SS} (hcal : calOK l G opsS D' cal) (hRm : ∀ k, k ≤ 21 → D' + 1 ≤ R.frames ∧ 8 + (k + 11) + 40 * D' ≤ R.locals) (hret : RetK G A cJ9_max_7cf53 113 6344 ad0 p l e R s0 m args below meth c Q opsS ret r .ireturn okI) : ∀ q ∈ tb_J9_max_7cf53 cal, OKi G A 2 113 6344 ad0 p l e R s0 m args below meth c Q opsS ret r q.1 q.2 :=
    okc (ok_iload_n (j := 0) X (by decide +kernel) rfl rfl) (
    okc (ok_iload_n (j := 1) X (by decide +kernel) rfl rfl) (
    okc (ok_clt (off := 7) X (by decide +kernel) (by decide) rfl) (
    okc (ok_iload_n (j := 0) X (by decide +kernel) rfl rfl) (
    okc (ok_goto (off := 4) X (by decide +kernel) (by decide)) (
    okc (ok_iload_n (j := 1) X (by decide +kernel) rfl rfl) (
    okc (ok_iret hret (by decide +kernel)) (
    okn)))))))
noncomputable def es_J9_max_7cf53  : List (Nat × En) := []
set_option maxRecDepth 100000 in
set_option maxHeartbeats 4000000 in
theorem eq_J9_max_7cf53   (a0 : Int32) (a1 : Int32) (s : SS) : ex (tb_J9_max_7cf53 (calE (es_J9_max_7cf53))) rI [] (fun _ _ _ _ => none) 9 0 [some (.int a0), some (.int a1)] [] s = f_J9_max_7cf53 a0 a1 s := by
  rfl
set_option maxRecDepth 100000 in
set_option maxHeartbeats 4000000 in
theorem run_J9_max_7cf53 {l : Launch} {G : Gm}   (a0 : Int32) (a1 : Int32) (s : SS) (q : (Int32 × SS)) (h : f_J9_max_7cf53 a0 a1 s = some q) (D' : Nat) (hD : 0 ≤ D') : RunsM l G (D' + 1) (md 267) (embS s) [.int a0, .int a1] (some (.int q.1)) (embS q.2) := by
  rw [md_J9_max_7cf53]
  refine runs_I (by decide +kernel) (Nat.le_of_ble_eq_true rfl) rfl ?_
  intro A p e R s0 m args below meth c Q ad0 hR X hret
  have X : Cx G A RJ9 cJ9_max_7cf53 2 p s0 m args c := X
  have hT := tk_J9_max_7cf53 X (calE_ok (es := es_J9_max_7cf53) (enn)) (rmD rfl hR) hret
  rw [← eq_J9_max_7cf53   a0 a1 s] at h
  refine ex_good hT (fun pc' ls' st' x' hh => ?_) 9 0 _ [] s h
  cases hh

noncomputable def en_J9_max_7cf53  : En := fun _ av s k => match av with
  | [.int a0, .int a1] => (bI (f_J9_max_7cf53 a0 a1 s) k)
  | _ => none
set_option maxRecDepth 100000 in
set_option maxHeartbeats 4000000 in
theorem en_J9_max_7cf53_ok {l : Launch} {G : Gm} (D : Nat) (hD : 1 ≤ D) : enOK l G D 267 en_J9_max_7cf53 := by
  intro ρ av x k r h
  unfold en_J9_max_7cf53 at h
  split at h
  · obtain ⟨q, h1, h2⟩ := bind_of h
    obtain ⟨D', rfl⟩ : ∃ D', D = D' + 1 := ⟨D - 1, by omega⟩
    exact ⟨_, _, h2, run_J9_max_7cf53  _ _ _ _ h1 D' (by omega)⟩
  · cases h

/-! java/lang/Math min -/
noncomputable def tb_J9_min_7cf53 (cal : Cal SS) : List (Nat × Ins SS) := [(0, e_iload 0 1), (1, e_iload 1 2), (2, e_cgt 9 5), (5, e_iload 0 6), (6, e_goto 10), (9, e_iload 1 10), (10, e_iret)]
set_option maxRecDepth 100000 in
set_option maxHeartbeats 4000000 in
theorem tk_J9_min_7cf53 {ad0 : Nat → Nat} {G : Gm} {A : Nat → Prop} {p : Program} {l : Launch} {e : Env} {R : Room} {s0 : State} {m : MethodId} {args : Array Value} {below : List Frame} {meth : Method} {c : Code} {Q : State → Prop} {ρ : Type} {ret : Option Value → SS → Option ρ} {r : ρ} (X : Cx G A RJ9 cJ9_min_7cf53 2 p s0 m args c) {D' : Nat} {cal : Cal SS} (hcal : calOK l G opsS D' cal) (hRm : ∀ k, k ≤ 21 → D' + 1 ≤ R.frames ∧ 8 + (k + 11) + 40 * D' ≤ R.locals) (hret : RetK G A cJ9_min_7cf53 113 6344 ad0 p l e R s0 m args below meth c Q opsS ret r .ireturn okI) : ∀ q ∈ tb_J9_min_7cf53 cal, OKi G A 2 113 6344 ad0 p l e R s0 m args below meth c Q opsS ret r q.1 q.2 :=
    okc (ok_iload_n (j := 0) X (by decide +kernel) rfl rfl) (
    okc (ok_iload_n (j := 1) X (by decide +kernel) rfl rfl) (
    okc (ok_cgt (off := 7) X (by decide +kernel) (by decide) rfl) (
    okc (ok_iload_n (j := 0) X (by decide +kernel) rfl rfl) (
    okc (ok_goto (off := 4) X (by decide +kernel) (by decide)) (
    okc (ok_iload_n (j := 1) X (by decide +kernel) rfl rfl) (
    okc (ok_iret hret (by decide +kernel)) (
    okn)))))))
noncomputable def es_J9_min_7cf53  : List (Nat × En) := []
set_option maxRecDepth 100000 in
set_option maxHeartbeats 4000000 in
theorem eq_J9_min_7cf53   (a0 : Int32) (a1 : Int32) (s : SS) : ex (tb_J9_min_7cf53 (calE (es_J9_min_7cf53))) rI [] (fun _ _ _ _ => none) 9 0 [some (.int a0), some (.int a1)] [] s = f_J9_min_7cf53 a0 a1 s := by
  rfl
set_option maxRecDepth 100000 in
set_option maxHeartbeats 4000000 in
theorem run_J9_min_7cf53 {l : Launch} {G : Gm}   (a0 : Int32) (a1 : Int32) (s : SS) (q : (Int32 × SS)) (h : f_J9_min_7cf53 a0 a1 s = some q) (D' : Nat) (hD : 0 ≤ D') : RunsM l G (D' + 1) (md 268) (embS s) [.int a0, .int a1] (some (.int q.1)) (embS q.2) := by
  rw [md_J9_min_7cf53]
  refine runs_I (by decide +kernel) (Nat.le_of_ble_eq_true rfl) rfl ?_
  intro A p e R s0 m args below meth c Q ad0 hR X hret
  have X : Cx G A RJ9 cJ9_min_7cf53 2 p s0 m args c := X
  have hT := tk_J9_min_7cf53 X (calE_ok (es := es_J9_min_7cf53) (enn)) (rmD rfl hR) hret
  rw [← eq_J9_min_7cf53   a0 a1 s] at h
  refine ex_good hT (fun pc' ls' st' x' hh => ?_) 9 0 _ [] s h
  cases hh

noncomputable def en_J9_min_7cf53  : En := fun _ av s k => match av with
  | [.int a0, .int a1] => (bI (f_J9_min_7cf53 a0 a1 s) k)
  | _ => none
set_option maxRecDepth 100000 in
set_option maxHeartbeats 4000000 in
theorem en_J9_min_7cf53_ok {l : Launch} {G : Gm} (D : Nat) (hD : 1 ≤ D) : enOK l G D 268 en_J9_min_7cf53 := by
  intro ρ av x k r h
  unfold en_J9_min_7cf53 at h
  split at h
  · obtain ⟨q, h1, h2⟩ := bind_of h
    obtain ⟨D', rfl⟩ : ∃ D', D = D' + 1 := ⟨D - 1, by omega⟩
    exact ⟨_, _, h2, run_J9_min_7cf53  _ _ _ _ h1 D' (by omega)⟩
  · cases h

/-! java/util/Arrays fill -/
noncomputable def tb_J7_fill_d0a16 (cal : Cal SS) : List (Nat × Ins SS) := [(0, e_iconst (0) 1), (1, e_istore 3 2), (2, e_aload 0 3), (3, e_alen opsS 4), (4, e_istore 4 6), (6, e_iload 3 7), (7, e_iload 4 9), (9, e_cge 22 12), (12, e_aload 0 13), (13, e_iload 3 14), (14, e_lload 1 15), (15, e_last opsS 16), (16, e_iinc 3 (1) 19), (19, e_goto 6), (22, e_vret)]
set_option maxRecDepth 100000 in
set_option maxHeartbeats 4000000 in
theorem tk_J7_fill_d0a16 {ad0 : Nat → Nat} {G : Gm} {A : Nat → Prop} {p : Program} {l : Launch} {e : Env} {R : Room} {s0 : State} {m : MethodId} {args : Array Value} {below : List Frame} {meth : Method} {c : Code} {Q : State → Prop} {ρ : Type} {ret : Option Value → SS → Option ρ} {r : ρ} (X : Cx G A RJ7 cJ7_fill_d0a16 5 p s0 m args c) {D' : Nat} {cal : Cal SS} (hcal : calOK l G opsS D' cal) (hRm : ∀ k, k ≤ 21 → D' + 1 ≤ R.frames ∧ 8 + (k + 11) + 40 * D' ≤ R.locals) (hret : RetK G A cJ7_fill_d0a16 113 6344 ad0 p l e R s0 m args below meth c Q opsS ret r .return_ okV) : ∀ q ∈ tb_J7_fill_d0a16 cal, OKi G A 5 113 6344 ad0 p l e R s0 m args below meth c Q opsS ret r q.1 q.2 :=
    okc (ok_iconst (n := 0) X (by decide +kernel) rfl rfl) (
    okc (ok_istore_n (j := 3) X (by decide +kernel) rfl rfl) (
    okc (ok_aload_n (j := 0) X (by decide +kernel) rfl rfl) (
    okc (ok_alen X (by decide +kernel) rfl) (
    okc (ok_istore X (by decide +kernel) rfl) (
    okc (ok_iload_n (j := 3) X (by decide +kernel) rfl rfl) (
    okc (ok_iload X (by decide +kernel) rfl) (
    okc (ok_cge (off := 13) X (by decide +kernel) (by decide) rfl) (
    okc (ok_aload_n (j := 0) X (by decide +kernel) rfl rfl) (
    okc (ok_iload_n (j := 3) X (by decide +kernel) rfl rfl) (
    okc (ok_lload_n (j := 1) X (by decide +kernel) rfl rfl) (
    okc (ok_last X opsS_ok (by decide +kernel) rfl) (
    okc (ok_iinc (n := 1) X (by decide +kernel) rfl rfl) (
    okc (ok_goto (off := -13) X (by decide +kernel) (by decide)) (
    okc (ok_vret hret (by decide +kernel)) (
    okn)))))))))))))))
noncomputable def es_J7_fill_d0a16  : List (Nat × En) := []
noncomputable def ka_J7_fill_d0a16_6 (d : Nat)  (n : Nat) : Kn SS SS := fun pc ls st s => bif Nat.beq pc 6 then (match ls, st with
    | [some y0, some (.long x1), _, some (.int x3), some (.int x4)], [] => (gd (veq y0 (.ref d)) (F_J7_fill_d0a16_6 d n x1 x3 x4 s))
    | _, _ => none) else (none)
set_option maxRecDepth 100000 in
set_option maxHeartbeats 4000000 in
theorem eq_J7_fill_d0a16_6 (d : Nat)  (hd : (Nat.ble 63 d && nlt d 69) = true) (n : Nat) (x1 : Int64) (x3 : Int32) (x4 : Int32) (s : SS) : ex (tb_J7_fill_d0a16 (calE (es_J7_fill_d0a16))) rV [6] (ka_J7_fill_d0a16_6 d  n) 17 6 [some (.ref d), some (.long x1), none, some (.int x3), some (.int x4)] [] s = F_J7_fill_d0a16_6 d  (n + 1) x1 x3 x4 s := by
  rcases beq6 hd with rfl | rfl | rfl | rfl | rfl | rfl <;> rfl
set_option maxRecDepth 100000 in
set_option maxHeartbeats 4000000 in
theorem gd_J7_fill_d0a16_6 {ad0 : Nat → Nat} {G : Gm} {A : Nat → Prop} {p : Program} {l : Launch} {e : Env} {R : Room} {s0 : State} {m : MethodId} {args : Array Value} {below : List Frame} {meth : Method} {c : Code} {Q : State → Prop} {r : SS} {d : Nat}  (hT : ∀ q ∈ tb_J7_fill_d0a16 (calE (es_J7_fill_d0a16)), OKi G A 5 113 6344 ad0 p l e R s0 m args below meth c Q opsS rV r q.1 q.2)  (hd : (Nat.ble 63 d && nlt d 69) = true) : ∀ (n : Nat) (x1 : Int64) (x3 : Int32) (x4 : Int32) (s : SS), F_J7_fill_d0a16_6 d  n x1 x3 x4 s = some r → Gd G A 5 113 6344 ad0 p l e R s0 m args below meth c Q opsS 6 [some (.ref d), some (.long x1), none, some (.int x3), some (.int x4)] [] s := by
  intro n
  induction n with
  | zero =>
    intro x1 x3 x4 s hh
    exact absurd (show (none : Option SS) = some r from hh) (by simp)
  | succ n ih =>
    intro x1 x3 x4 s hh
    rw [← eq_J7_fill_d0a16_6 d  hd n x1 x3 x4 s] at hh
    refine ex_good hT (fun pc' ls' st' x' hh => ?_) 17 6 _ [] s hh
    unfold ka_J7_fill_d0a16_6 at hh
    cases hb : Nat.beq pc' 6 with
    | true =>
      rw [hb] at hh
      have e9 := beq1 hb
      subst e9
      simp only [cond_true] at hh
      split at hh
      · obtain ⟨g0, hh1⟩ := gd_some hh
        have e0 := veq_of g0
        subst e0
        exact Gd.wk (ih _ _ _ _ hh1) (Lle.eq (Lle.eq (Lle.no (Lle.eq (Lle.eq Lle.nil)))))
      · cases hh
    | false =>
      rw [hb] at hh
      simp only [cond_false] at hh
      cases hh

noncomputable def ka_J7_fill_d0a16 (d : Nat) : Kn SS SS := fun pc ls st s => bif Nat.beq pc 6 then (match ls, st with
    | [some y0, some (.long x1), _, some (.int x3), some (.int x4)], [] => (gd (veq y0 (.ref d)) (F_J7_fill_d0a16_6 d fuel0 x1 x3 x4 s))
    | _, _ => none) else (none)
set_option maxRecDepth 100000 in
set_option maxHeartbeats 4000000 in
theorem eq_J7_fill_d0a16 (d : Nat) (hd : (Nat.ble 63 d && nlt d 69) = true) (a0 : Int64) (s : SS) : ex (tb_J7_fill_d0a16 (calE (es_J7_fill_d0a16))) rV [6] (ka_J7_fill_d0a16 d) 17 0 [some (.ref d), some (.long a0), none, none, none] [] s = f_J7_fill_d0a16 d a0 s := by
  rcases beq6 hd with rfl | rfl | rfl | rfl | rfl | rfl <;> rfl
set_option maxRecDepth 100000 in
set_option maxHeartbeats 4000000 in
theorem run_J7_fill_d0a16 {l : Launch} {G : Gm} {d : Nat} (hd : (Nat.ble 63 d && nlt d 69) = true) (a0 : Int64) (s : SS) (q : SS) (h : f_J7_fill_d0a16 d a0 s = some q) (D' : Nat) (hD : 0 ≤ D') : RunsM l G (D' + 1) (md 265) (embS s) [.ref d, .long a0] none (embS q) := by
  rw [md_J7_fill_d0a16]
  refine runs_V (by decide +kernel) (Nat.le_of_ble_eq_true rfl) rfl ?_
  intro A p e R s0 m args below meth c Q ad0 hR X hret
  have X : Cx G A RJ7 cJ7_fill_d0a16 5 p s0 m args c := X
  have hT := tk_J7_fill_d0a16 X (calE_ok (es := es_J7_fill_d0a16) (enn)) (rmD rfl hR) hret
  rw [← eq_J7_fill_d0a16 d hd a0 s] at h
  refine ex_good hT (fun pc' ls' st' x' hh => ?_) 17 0 _ [] s h
  unfold ka_J7_fill_d0a16 at hh
  cases hb : Nat.beq pc' 6 with
  | true =>
    rw [hb] at hh
    have e9 := beq1 hb
    subst e9
    simp only [cond_true] at hh
    split at hh
    · obtain ⟨g0, hh1⟩ := gd_some hh
      have e0 := veq_of g0
      subst e0
      exact Gd.wk (gd_J7_fill_d0a16_6 hT hd _ _ _ _ _ hh1) (Lle.eq (Lle.eq (Lle.no (Lle.eq (Lle.eq Lle.nil)))))
    · cases hh
  | false =>
    rw [hb] at hh
    simp only [cond_false] at hh
    cases hh

noncomputable def en_J7_fill_d0a16  : En := fun _ av s k => match av with
  | [.ref d, .long a0] => (gd (Nat.ble 63 d && nlt d 69) (bV (f_J7_fill_d0a16 d a0 s) k))
  | _ => none
set_option maxRecDepth 100000 in
set_option maxHeartbeats 4000000 in
theorem en_J7_fill_d0a16_ok {l : Launch} {G : Gm} (D : Nat) (hD : 1 ≤ D) : enOK l G D 265 en_J7_fill_d0a16 := by
  intro ρ av x k r h
  unfold en_J7_fill_d0a16 at h
  split at h
  · obtain ⟨g0, h⟩ := gd_some h
    obtain ⟨q, h1, h2⟩ := bind_of h
    obtain ⟨D', rfl⟩ : ∃ D', D = D' + 1 := ⟨D - 1, by omega⟩
    exact ⟨_, _, h2, run_J7_fill_d0a16 g0 _ _ _ h1 D' (by omega)⟩
  · cases h

/-! java/lang/String isLatin1 -/
noncomputable def tb_J0_isLatin1_aae02 (cal : Cal SS) : List (Nat × Ins SS) := [(0, e_iconst (1) 3), (3, e_ifeq 17 6), (6, e_aload 0 7), (7, e_scod 10), (10, e_ifne 17 13), (13, e_iconst (1) 14), (14, e_goto 18), (17, e_iconst (0) 18), (18, e_zret)]
set_option maxRecDepth 100000 in
set_option maxHeartbeats 4000000 in
theorem tk_J0_isLatin1_aae02 {ad0 : Nat → Nat} {G : Gm} {A : Nat → Prop} {p : Program} {l : Launch} {e : Env} {R : Room} {s0 : State} {m : MethodId} {args : Array Value} {below : List Frame} {meth : Method} {c : Code} {Q : State → Prop} {ρ : Type} {ret : Option Value → SS → Option ρ} {r : ρ} (X : Cx G A RJ0 cJ0_isLatin1_aae02 1 p s0 m args c) {D' : Nat} {cal : Cal SS} (hcal : calOK l G opsS D' cal) (hRm : ∀ k, k ≤ 21 → D' + 1 ≤ R.frames ∧ 8 + (k + 11) + 40 * D' ≤ R.locals) (hret : RetK G A cJ0_isLatin1_aae02 113 6344 ad0 p l e R s0 m args below meth c Q opsS ret r .ireturn okZ) : ∀ q ∈ tb_J0_isLatin1_aae02 cal, OKi G A 1 113 6344 ad0 p l e R s0 m args below meth c Q opsS ret r q.1 q.2 :=
    okc (ok_cstr X wf_J0_38 (by decide +kernel) rfl) (
    okc (ok_ifeq (off := 14) X (by decide +kernel) (by decide) rfl) (
    okc (ok_aload_n (j := 0) X (by decide +kernel) rfl rfl) (
    okc (ok_scod X wf_J0_15 (by decide +kernel) rfl) (
    okc (ok_ifne (off := 7) X (by decide +kernel) (by decide) rfl) (
    okc (ok_iconst (n := 1) X (by decide +kernel) rfl rfl) (
    okc (ok_goto (off := 4) X (by decide +kernel) (by decide)) (
    okc (ok_iconst (n := 0) X (by decide +kernel) rfl rfl) (
    okc (ok_zret hret (by decide +kernel)) (
    okn)))))))))
noncomputable def es_J0_isLatin1_aae02  : List (Nat × En) := []
set_option maxRecDepth 100000 in
set_option maxHeartbeats 4000000 in
theorem eq_J0_isLatin1_aae02    (s : SS) : ex (tb_J0_isLatin1_aae02 (calE (es_J0_isLatin1_aae02))) rI [] (fun _ _ _ _ => none) 11 0 [some (.ref 202)] [] s = f_J0_isLatin1_aae02  s := by
  rfl
set_option maxRecDepth 100000 in
set_option maxHeartbeats 4000000 in
theorem run_J0_isLatin1_aae02 {l : Launch} {G : Gm}    (s : SS) (q : (Int32 × SS)) (h : f_J0_isLatin1_aae02  s = some q) (D' : Nat) (hD : 0 ≤ D') : RunsM l G (D' + 1) (md 252) (embS s) [.ref 202] (some (.int q.1)) (embS q.2) := by
  rw [md_J0_isLatin1_aae02]
  refine runs_Z (by decide +kernel) (Nat.le_of_ble_eq_true rfl) rfl ?_
  intro A p e R s0 m args below meth c Q ad0 hR X hret
  have X : Cx G A RJ0 cJ0_isLatin1_aae02 1 p s0 m args c := X
  have hT := tk_J0_isLatin1_aae02 X (calE_ok (es := es_J0_isLatin1_aae02) (enn)) (rmD rfl hR) hret
  rw [← eq_J0_isLatin1_aae02    s] at h
  refine ex_good hT (fun pc' ls' st' x' hh => ?_) 11 0 _ [] s h
  cases hh

noncomputable def en_J0_isLatin1_aae02  : En := fun _ av s k => match av with
  | [.ref r0] => (gd (Nat.beq r0 202) (bI (f_J0_isLatin1_aae02  s) k))
  | _ => none
set_option maxRecDepth 100000 in
set_option maxHeartbeats 4000000 in
theorem en_J0_isLatin1_aae02_ok {l : Launch} {G : Gm} (D : Nat) (hD : 1 ≤ D) : enOK l G D 252 en_J0_isLatin1_aae02 := by
  intro ρ av x k r h
  unfold en_J0_isLatin1_aae02 at h
  split at h
  · obtain ⟨g0, h⟩ := gd_some h
    obtain ⟨q, h1, h2⟩ := bind_of h
    have e0 := beq1 g0
    subst e0
    obtain ⟨D', rfl⟩ : ∃ D', D = D' + 1 := ⟨D - 1, by omega⟩
    exact ⟨_, _, h2, run_J0_isLatin1_aae02   _ _ h1 D' (by omega)⟩
  · cases h

/-! java/lang/String coder -/
noncomputable def tb_J0_coder_7d493 (cal : Cal SS) : List (Nat × Ins SS) := [(0, e_iconst (1) 3), (3, e_ifeq 13 6), (6, e_aload 0 7), (7, e_scod 10), (10, e_goto 14), (13, e_iconst (1) 14), (14, e_zret)]
set_option maxRecDepth 100000 in
set_option maxHeartbeats 4000000 in
theorem tk_J0_coder_7d493 {ad0 : Nat → Nat} {G : Gm} {A : Nat → Prop} {p : Program} {l : Launch} {e : Env} {R : Room} {s0 : State} {m : MethodId} {args : Array Value} {below : List Frame} {meth : Method} {c : Code} {Q : State → Prop} {ρ : Type} {ret : Option Value → SS → Option ρ} {r : ρ} (X : Cx G A RJ0 cJ0_coder_7d493 1 p s0 m args c) {D' : Nat} {cal : Cal SS} (hcal : calOK l G opsS D' cal) (hRm : ∀ k, k ≤ 21 → D' + 1 ≤ R.frames ∧ 8 + (k + 11) + 40 * D' ≤ R.locals) (hret : RetK G A cJ0_coder_7d493 113 6344 ad0 p l e R s0 m args below meth c Q opsS ret r .ireturn okZ) : ∀ q ∈ tb_J0_coder_7d493 cal, OKi G A 1 113 6344 ad0 p l e R s0 m args below meth c Q opsS ret r q.1 q.2 :=
    okc (ok_cstr X wf_J0_38 (by decide +kernel) rfl) (
    okc (ok_ifeq (off := 10) X (by decide +kernel) (by decide) rfl) (
    okc (ok_aload_n (j := 0) X (by decide +kernel) rfl rfl) (
    okc (ok_scod X wf_J0_15 (by decide +kernel) rfl) (
    okc (ok_goto (off := 4) X (by decide +kernel) (by decide)) (
    okc (ok_iconst (n := 1) X (by decide +kernel) rfl rfl) (
    okc (ok_zret hret (by decide +kernel)) (
    okn)))))))
noncomputable def es_J0_coder_7d493  : List (Nat × En) := []
set_option maxRecDepth 100000 in
set_option maxHeartbeats 4000000 in
theorem eq_J0_coder_7d493    (s : SS) : ex (tb_J0_coder_7d493 (calE (es_J0_coder_7d493))) rI [] (fun _ _ _ _ => none) 9 0 [some (.ref 202)] [] s = f_J0_coder_7d493  s := by
  rfl
set_option maxRecDepth 100000 in
set_option maxHeartbeats 4000000 in
theorem run_J0_coder_7d493 {l : Launch} {G : Gm}    (s : SS) (q : (Int32 × SS)) (h : f_J0_coder_7d493  s = some q) (D' : Nat) (hD : 0 ≤ D') : RunsM l G (D' + 1) (md 251) (embS s) [.ref 202] (some (.int q.1)) (embS q.2) := by
  rw [md_J0_coder_7d493]
  refine runs_B (by decide +kernel) (Nat.le_of_ble_eq_true rfl) rfl ?_
  intro A p e R s0 m args below meth c Q ad0 hR X hret
  have X : Cx G A RJ0 cJ0_coder_7d493 1 p s0 m args c := X
  have hT := tk_J0_coder_7d493 X (calE_ok (es := es_J0_coder_7d493) (enn)) (rmD rfl hR) hret
  rw [← eq_J0_coder_7d493    s] at h
  refine ex_good hT (fun pc' ls' st' x' hh => ?_) 9 0 _ [] s h
  cases hh

noncomputable def en_J0_coder_7d493  : En := fun _ av s k => match av with
  | [.ref r0] => (gd (Nat.beq r0 202) (bI (f_J0_coder_7d493  s) k))
  | _ => none
set_option maxRecDepth 100000 in
set_option maxHeartbeats 4000000 in
theorem en_J0_coder_7d493_ok {l : Launch} {G : Gm} (D : Nat) (hD : 1 ≤ D) : enOK l G D 251 en_J0_coder_7d493 := by
  intro ρ av x k r h
  unfold en_J0_coder_7d493 at h
  split at h
  · obtain ⟨g0, h⟩ := gd_some h
    obtain ⟨q, h1, h2⟩ := bind_of h
    have e0 := beq1 g0
    subst e0
    obtain ⟨D', rfl⟩ : ∃ D', D = D' + 1 := ⟨D - 1, by omega⟩
    exact ⟨_, _, h2, run_J0_coder_7d493   _ _ h1 D' (by omega)⟩
  · cases h

/-! java/lang/String length -/
noncomputable def tb_J0_length_8abf5 (cal : Cal SS) : List (Nat × Ins SS) := [(0, e_aload 0 1), (1, e_sval 4), (4, e_slen 5), (5, e_aload 0 6), (6, e_callX cal 251 0 9), (9, e_bin aShr 10), (10, e_iret)]
set_option maxRecDepth 100000 in
set_option maxHeartbeats 4000000 in
theorem tk_J0_length_8abf5 {ad0 : Nat → Nat} {G : Gm} {A : Nat → Prop} {p : Program} {l : Launch} {e : Env} {R : Room} {s0 : State} {m : MethodId} {args : Array Value} {below : List Frame} {meth : Method} {c : Code} {Q : State → Prop} {ρ : Type} {ret : Option Value → SS → Option ρ} {r : ρ} (X : Cx G A RJ0 cJ0_length_8abf5 1 p s0 m args c) {D' : Nat} {cal : Cal SS} (hcal : calOK l G opsS D' cal) (hRm : ∀ k, k ≤ 21 → D' + 1 ≤ R.frames ∧ 8 + (k + 11) + 40 * D' ≤ R.locals) (hret : RetK G A cJ0_length_8abf5 113 6344 ad0 p l e R s0 m args below meth c Q opsS ret r .ireturn okI) : ∀ q ∈ tb_J0_length_8abf5 cal, OKi G A 1 113 6344 ad0 p l e R s0 m args below meth c Q opsS ret r q.1 q.2 :=
    okc (ok_aload_n (j := 0) X (by decide +kernel) rfl rfl) (
    okc (ok_sval X wf_J0_9 (by decide +kernel) rfl) (
    okc (ok_slen X (by decide +kernel) rfl) (
    okc (ok_aload_n (j := 0) X (by decide +kernel) rfl rfl) (
    okc (ok_callX (Y := (yJ0_coder_7d493, cJ0_coder_7d493, 1, (some .byte))) X hcal opsS_n md_J0_coder_7d493 rfl wc_J0_coder_7d493 wl_J0_335 wi_J0 wm_J0_coder_7d493 wv_J0_coder_7d493 (by decide +kernel) (hRm 1 (by decide)) (by decide +kernel) rfl) (
    okc (ok_ishr X (by decide +kernel) rfl) (
    okc (ok_iret hret (by decide +kernel)) (
    okn)))))))
noncomputable def es_J0_length_8abf5  : List (Nat × En) := [(251, en_J0_coder_7d493)]
set_option maxRecDepth 100000 in
set_option maxHeartbeats 4000000 in
theorem eq_J0_length_8abf5    (s : SS) : ex (tb_J0_length_8abf5 (calE (es_J0_length_8abf5))) rI [] (fun _ _ _ _ => none) 9 0 [some (.ref 202)] [] s = f_J0_length_8abf5  s := by
  rfl
set_option maxRecDepth 100000 in
set_option maxHeartbeats 4000000 in
theorem run_J0_length_8abf5 {l : Launch} {G : Gm}    (s : SS) (q : (Int32 × SS)) (h : f_J0_length_8abf5  s = some q) (D' : Nat) (hD : 1 ≤ D') : RunsM l G (D' + 1) (md 248) (embS s) [.ref 202] (some (.int q.1)) (embS q.2) := by
  rw [md_J0_length_8abf5]
  refine runs_I (by decide +kernel) (Nat.le_of_ble_eq_true rfl) rfl ?_
  intro A p e R s0 m args below meth c Q ad0 hR X hret
  have X : Cx G A RJ0 cJ0_length_8abf5 1 p s0 m args c := X
  have hT := tk_J0_length_8abf5 X (calE_ok (es := es_J0_length_8abf5) (enc (en_J0_coder_7d493_ok _ (by omega)) (enn))) (rmD rfl hR) hret
  rw [← eq_J0_length_8abf5    s] at h
  refine ex_good hT (fun pc' ls' st' x' hh => ?_) 9 0 _ [] s h
  cases hh

noncomputable def en_J0_length_8abf5  : En := fun _ av s k => match av with
  | [.ref r0] => (gd (Nat.beq r0 202) (bI (f_J0_length_8abf5  s) k))
  | _ => none
set_option maxRecDepth 100000 in
set_option maxHeartbeats 4000000 in
theorem en_J0_length_8abf5_ok {l : Launch} {G : Gm} (D : Nat) (hD : 2 ≤ D) : enOK l G D 248 en_J0_length_8abf5 := by
  intro ρ av x k r h
  unfold en_J0_length_8abf5 at h
  split at h
  · obtain ⟨g0, h⟩ := gd_some h
    obtain ⟨q, h1, h2⟩ := bind_of h
    have e0 := beq1 g0
    subst e0
    obtain ⟨D', rfl⟩ : ∃ D', D = D' + 1 := ⟨D - 1, by omega⟩
    exact ⟨_, _, h2, run_J0_length_8abf5   _ _ h1 D' (by omega)⟩
  · cases h

/-! java/lang/StringLatin1 canEncode -/
noncomputable def tb_J1_canEncode_9a6ad (cal : Cal SS) : List (Nat × Ins SS) := [(0, e_iload 0 1), (1, e_iflt 15 4), (4, e_iload 0 5), (5, e_iconst (255) 8), (8, e_cgt 15 11), (11, e_iconst (1) 12), (12, e_goto 16), (15, e_iconst (0) 16), (16, e_zret)]
set_option maxRecDepth 100000 in
set_option maxHeartbeats 4000000 in
theorem tk_J1_canEncode_9a6ad {ad0 : Nat → Nat} {G : Gm} {A : Nat → Prop} {p : Program} {l : Launch} {e : Env} {R : Room} {s0 : State} {m : MethodId} {args : Array Value} {below : List Frame} {meth : Method} {c : Code} {Q : State → Prop} {ρ : Type} {ret : Option Value → SS → Option ρ} {r : ρ} (X : Cx G A RJ1 cJ1_canEncode_9a6ad 1 p s0 m args c) {D' : Nat} {cal : Cal SS} (hcal : calOK l G opsS D' cal) (hRm : ∀ k, k ≤ 21 → D' + 1 ≤ R.frames ∧ 8 + (k + 11) + 40 * D' ≤ R.locals) (hret : RetK G A cJ1_canEncode_9a6ad 113 6344 ad0 p l e R s0 m args below meth c Q opsS ret r .ireturn okZ) : ∀ q ∈ tb_J1_canEncode_9a6ad cal, OKi G A 1 113 6344 ad0 p l e R s0 m args below meth c Q opsS ret r q.1 q.2 :=
    okc (ok_iload_n (j := 0) X (by decide +kernel) rfl rfl) (
    okc (ok_iflt (off := 14) X (by decide +kernel) (by decide) rfl) (
    okc (ok_iload_n (j := 0) X (by decide +kernel) rfl rfl) (
    okc (ok_sipush (n := 255) X (by decide +kernel) rfl rfl) (
    okc (ok_cgt (off := 7) X (by decide +kernel) (by decide) rfl) (
    okc (ok_iconst (n := 1) X (by decide +kernel) rfl rfl) (
    okc (ok_goto (off := 4) X (by decide +kernel) (by decide)) (
    okc (ok_iconst (n := 0) X (by decide +kernel) rfl rfl) (
    okc (ok_zret hret (by decide +kernel)) (
    okn)))))))))
noncomputable def es_J1_canEncode_9a6ad  : List (Nat × En) := []
set_option maxRecDepth 100000 in
set_option maxHeartbeats 4000000 in
theorem eq_J1_canEncode_9a6ad   (a0 : Int32) (s : SS) : ex (tb_J1_canEncode_9a6ad (calE (es_J1_canEncode_9a6ad))) rI [] (fun _ _ _ _ => none) 11 0 [some (.int a0)] [] s = f_J1_canEncode_9a6ad a0 s := by
  rfl
set_option maxRecDepth 100000 in
set_option maxHeartbeats 4000000 in
theorem run_J1_canEncode_9a6ad {l : Launch} {G : Gm}   (a0 : Int32) (s : SS) (q : (Int32 × SS)) (h : f_J1_canEncode_9a6ad a0 s = some q) (D' : Nat) (hD : 0 ≤ D') : RunsM l G (D' + 1) (md 254) (embS s) [.int a0] (some (.int q.1)) (embS q.2) := by
  rw [md_J1_canEncode_9a6ad]
  refine runs_Z (by decide +kernel) (Nat.le_of_ble_eq_true rfl) rfl ?_
  intro A p e R s0 m args below meth c Q ad0 hR X hret
  have X : Cx G A RJ1 cJ1_canEncode_9a6ad 1 p s0 m args c := X
  have hT := tk_J1_canEncode_9a6ad X (calE_ok (es := es_J1_canEncode_9a6ad) (enn)) (rmD rfl hR) hret
  rw [← eq_J1_canEncode_9a6ad   a0 s] at h
  refine ex_good hT (fun pc' ls' st' x' hh => ?_) 11 0 _ [] s h
  cases hh

noncomputable def en_J1_canEncode_9a6ad  : En := fun _ av s k => match av with
  | [.int a0] => (bI (f_J1_canEncode_9a6ad a0 s) k)
  | _ => none
set_option maxRecDepth 100000 in
set_option maxHeartbeats 4000000 in
theorem en_J1_canEncode_9a6ad_ok {l : Launch} {G : Gm} (D : Nat) (hD : 1 ≤ D) : enOK l G D 254 en_J1_canEncode_9a6ad := by
  intro ρ av x k r h
  unfold en_J1_canEncode_9a6ad at h
  split at h
  · obtain ⟨q, h1, h2⟩ := bind_of h
    obtain ⟨D', rfl⟩ : ∃ D', D = D' + 1 := ⟨D - 1, by omega⟩
    exact ⟨_, _, h2, run_J1_canEncode_9a6ad  _ _ _ h1 D' (by omega)⟩
  · cases h

/-! java/lang/StringLatin1 indexOfChar -/
noncomputable def tb_J1_indexOfChar_4cfef (cal : Cal SS) : List (Nat × Ins SS) := [(0, e_iload 1 1), (1, e_un aB 2), (2, e_istore 4 4), (4, e_iload 2 5), (5, e_istore 5 7), (7, e_iload 5 9), (9, e_iload 3 10), (10, e_cge 31 13), (13, e_aload 0 14), (14, e_iload 5 16), (16, e_sbyt 17), (17, e_iload 4 19), (19, e_cne 25 22), (22, e_iload 5 24), (24, e_iret), (25, e_iinc 5 (1) 28), (28, e_goto 7), (31, e_iconst (-1) 32), (32, e_iret)]
set_option maxRecDepth 100000 in
set_option maxHeartbeats 4000000 in
theorem tk_J1_indexOfChar_4cfef {ad0 : Nat → Nat} {G : Gm} {A : Nat → Prop} {p : Program} {l : Launch} {e : Env} {R : Room} {s0 : State} {m : MethodId} {args : Array Value} {below : List Frame} {meth : Method} {c : Code} {Q : State → Prop} {ρ : Type} {ret : Option Value → SS → Option ρ} {r : ρ} (X : Cx G A RJ1 cJ1_indexOfChar_4cfef 6 p s0 m args c) {D' : Nat} {cal : Cal SS} (hcal : calOK l G opsS D' cal) (hRm : ∀ k, k ≤ 21 → D' + 1 ≤ R.frames ∧ 8 + (k + 11) + 40 * D' ≤ R.locals) (hret : RetK G A cJ1_indexOfChar_4cfef 113 6344 ad0 p l e R s0 m args below meth c Q opsS ret r .ireturn okI) : ∀ q ∈ tb_J1_indexOfChar_4cfef cal, OKi G A 6 113 6344 ad0 p l e R s0 m args below meth c Q opsS ret r q.1 q.2 :=
    okc (ok_iload_n (j := 1) X (by decide +kernel) rfl rfl) (
    okc (ok_i2b X (by decide +kernel) rfl) (
    okc (ok_istore X (by decide +kernel) rfl) (
    okc (ok_iload_n (j := 2) X (by decide +kernel) rfl rfl) (
    okc (ok_istore X (by decide +kernel) rfl) (
    okc (ok_iload X (by decide +kernel) rfl) (
    okc (ok_iload_n (j := 3) X (by decide +kernel) rfl rfl) (
    okc (ok_cge (off := 21) X (by decide +kernel) (by decide) rfl) (
    okc (ok_aload_n (j := 0) X (by decide +kernel) rfl rfl) (
    okc (ok_iload X (by decide +kernel) rfl) (
    okc (ok_sbyt X (by decide +kernel) rfl) (
    okc (ok_iload X (by decide +kernel) rfl) (
    okc (ok_cne (off := 6) X (by decide +kernel) (by decide) rfl) (
    okc (ok_iload X (by decide +kernel) rfl) (
    okc (ok_iret hret (by decide +kernel)) (
    okc (ok_iinc (n := 1) X (by decide +kernel) rfl rfl) (
    okc (ok_goto (off := -21) X (by decide +kernel) (by decide)) (
    okc (ok_iconst (n := -1) X (by decide +kernel) rfl rfl) (
    okc (ok_iret hret (by decide +kernel)) (
    okn)))))))))))))))))))
noncomputable def es_J1_indexOfChar_4cfef  : List (Nat × En) := []
noncomputable def ka_J1_indexOfChar_4cfef_7   (n : Nat) : Kn SS (Int32 × SS) := fun pc ls st s => bif Nat.beq pc 7 then (match ls, st with
    | [some y0, _, _, some (.int x3), some (.int x4), some (.int x5)], [] => (gd (veq y0 (.ref 203)) (F_J1_indexOfChar_4cfef_7 n x3 x4 x5 s))
    | _, _ => none) else (none)
set_option maxRecDepth 100000 in
set_option maxHeartbeats 4000000 in
theorem eq_J1_indexOfChar_4cfef_7    (n : Nat) (x3 : Int32) (x4 : Int32) (x5 : Int32) (s : SS) : ex (tb_J1_indexOfChar_4cfef (calE (es_J1_indexOfChar_4cfef))) rI [7] (ka_J1_indexOfChar_4cfef_7   n) 21 7 [some (.ref 203), none, none, some (.int x3), some (.int x4), some (.int x5)] [] s = F_J1_indexOfChar_4cfef_7   (n + 1) x3 x4 x5 s := by
  rfl
set_option maxRecDepth 100000 in
set_option maxHeartbeats 4000000 in
theorem gd_J1_indexOfChar_4cfef_7 {ad0 : Nat → Nat} {G : Gm} {A : Nat → Prop} {p : Program} {l : Launch} {e : Env} {R : Room} {s0 : State} {m : MethodId} {args : Array Value} {below : List Frame} {meth : Method} {c : Code} {Q : State → Prop} {r : (Int32 × SS)}   (hT : ∀ q ∈ tb_J1_indexOfChar_4cfef (calE (es_J1_indexOfChar_4cfef)), OKi G A 6 113 6344 ad0 p l e R s0 m args below meth c Q opsS rI r q.1 q.2)   : ∀ (n : Nat) (x3 : Int32) (x4 : Int32) (x5 : Int32) (s : SS), F_J1_indexOfChar_4cfef_7   n x3 x4 x5 s = some r → Gd G A 6 113 6344 ad0 p l e R s0 m args below meth c Q opsS 7 [some (.ref 203), none, none, some (.int x3), some (.int x4), some (.int x5)] [] s := by
  intro n
  induction n with
  | zero =>
    intro x3 x4 x5 s hh
    exact absurd (show (none : Option (Int32 × SS)) = some r from hh) (by simp)
  | succ n ih =>
    intro x3 x4 x5 s hh
    rw [← eq_J1_indexOfChar_4cfef_7    n x3 x4 x5 s] at hh
    refine ex_good hT (fun pc' ls' st' x' hh => ?_) 21 7 _ [] s hh
    unfold ka_J1_indexOfChar_4cfef_7 at hh
    cases hb : Nat.beq pc' 7 with
    | true =>
      rw [hb] at hh
      have e9 := beq1 hb
      subst e9
      simp only [cond_true] at hh
      split at hh
      · obtain ⟨g0, hh1⟩ := gd_some hh
        have e0 := veq_of g0
        subst e0
        exact Gd.wk (ih _ _ _ _ hh1) (Lle.eq (Lle.no (Lle.no (Lle.eq (Lle.eq (Lle.eq Lle.nil))))))
      · cases hh
    | false =>
      rw [hb] at hh
      simp only [cond_false] at hh
      cases hh

noncomputable def ka_J1_indexOfChar_4cfef  : Kn SS (Int32 × SS) := fun pc ls st s => bif Nat.beq pc 7 then (match ls, st with
    | [some y0, _, _, some (.int x3), some (.int x4), some (.int x5)], [] => (gd (veq y0 (.ref 203)) (F_J1_indexOfChar_4cfef_7 fuel0 x3 x4 x5 s))
    | _, _ => none) else (none)
set_option maxRecDepth 100000 in
set_option maxHeartbeats 4000000 in
theorem eq_J1_indexOfChar_4cfef   (a0 : Int32) (a1 : Int32) (a2 : Int32) (s : SS) : ex (tb_J1_indexOfChar_4cfef (calE (es_J1_indexOfChar_4cfef))) rI [7] (ka_J1_indexOfChar_4cfef ) 21 0 [some (.ref 203), some (.int a0), some (.int a1), some (.int a2), none, none] [] s = f_J1_indexOfChar_4cfef a0 a1 a2 s := by
  rfl
set_option maxRecDepth 100000 in
set_option maxHeartbeats 4000000 in
theorem run_J1_indexOfChar_4cfef {l : Launch} {G : Gm}   (a0 : Int32) (a1 : Int32) (a2 : Int32) (s : SS) (q : (Int32 × SS)) (h : f_J1_indexOfChar_4cfef a0 a1 a2 s = some q) (D' : Nat) (hD : 0 ≤ D') : RunsM l G (D' + 1) (md 256) (embS s) [.ref 203, .int a0, .int a1, .int a2] (some (.int q.1)) (embS q.2) := by
  rw [md_J1_indexOfChar_4cfef]
  refine runs_I (by decide +kernel) (Nat.le_of_ble_eq_true rfl) rfl ?_
  intro A p e R s0 m args below meth c Q ad0 hR X hret
  have X : Cx G A RJ1 cJ1_indexOfChar_4cfef 6 p s0 m args c := X
  have hT := tk_J1_indexOfChar_4cfef X (calE_ok (es := es_J1_indexOfChar_4cfef) (enn)) (rmD rfl hR) hret
  rw [← eq_J1_indexOfChar_4cfef   a0 a1 a2 s] at h
  refine ex_good hT (fun pc' ls' st' x' hh => ?_) 21 0 _ [] s h
  unfold ka_J1_indexOfChar_4cfef at hh
  cases hb : Nat.beq pc' 7 with
  | true =>
    rw [hb] at hh
    have e9 := beq1 hb
    subst e9
    simp only [cond_true] at hh
    split at hh
    · obtain ⟨g0, hh1⟩ := gd_some hh
      have e0 := veq_of g0
      subst e0
      exact Gd.wk (gd_J1_indexOfChar_4cfef_7 hT  _ _ _ _ _ hh1) (Lle.eq (Lle.no (Lle.no (Lle.eq (Lle.eq (Lle.eq Lle.nil))))))
    · cases hh
  | false =>
    rw [hb] at hh
    simp only [cond_false] at hh
    cases hh

noncomputable def en_J1_indexOfChar_4cfef  : En := fun _ av s k => match av with
  | [.ref r0, .int a0, .int a1, .int a2] => (gd (Nat.beq r0 203) (bI (f_J1_indexOfChar_4cfef a0 a1 a2 s) k))
  | _ => none
set_option maxRecDepth 100000 in
set_option maxHeartbeats 4000000 in
theorem en_J1_indexOfChar_4cfef_ok {l : Launch} {G : Gm} (D : Nat) (hD : 1 ≤ D) : enOK l G D 256 en_J1_indexOfChar_4cfef := by
  intro ρ av x k r h
  unfold en_J1_indexOfChar_4cfef at h
  split at h
  · obtain ⟨g0, h⟩ := gd_some h
    obtain ⟨q, h1, h2⟩ := bind_of h
    have e0 := beq1 g0
    subst e0
    obtain ⟨D', rfl⟩ : ∃ D', D = D' + 1 := ⟨D - 1, by omega⟩
    exact ⟨_, _, h2, run_J1_indexOfChar_4cfef  _ _ _ _ _ h1 D' (by omega)⟩
  · cases h

/-! java/lang/StringLatin1 indexOf -/
noncomputable def tb_J1_indexOf_4cfef (cal : Cal SS) : List (Nat × Ins SS) := [(0, e_iload 1 1), (1, e_callS cal 254 1 4), (4, e_ifne 9 7), (7, e_iconst (-1) 8), (8, e_iret), (9, e_iload 2 10), (10, e_iconst (0) 11), (11, e_callS cal 267 2 14), (14, e_istore 2 15), (15, e_iload 3 16), (16, e_aload 0 17), (17, e_slen 18), (18, e_callS cal 268 2 21), (21, e_istore 3 22), (22, e_iload 2 23), (23, e_iload 3 24), (24, e_clt 29 27), (27, e_iconst (-1) 28), (28, e_iret), (29, e_aload 0 30), (30, e_iload 1 31), (31, e_iload 2 32), (32, e_iload 3 33), (33, e_callS cal 256 4 36), (36, e_iret)]
set_option maxRecDepth 100000 in
set_option maxHeartbeats 4000000 in
theorem tk_J1_indexOf_4cfef {ad0 : Nat → Nat} {G : Gm} {A : Nat → Prop} {p : Program} {l : Launch} {e : Env} {R : Room} {s0 : State} {m : MethodId} {args : Array Value} {below : List Frame} {meth : Method} {c : Code} {Q : State → Prop} {ρ : Type} {ret : Option Value → SS → Option ρ} {r : ρ} (X : Cx G A RJ1 cJ1_indexOf_4cfef 4 p s0 m args c) {D' : Nat} {cal : Cal SS} (hcal : calOK l G opsS D' cal) (hRm : ∀ k, k ≤ 21 → D' + 1 ≤ R.frames ∧ 8 + (k + 11) + 40 * D' ≤ R.locals) (hret : RetK G A cJ1_indexOf_4cfef 113 6344 ad0 p l e R s0 m args below meth c Q opsS ret r .ireturn okI) : ∀ q ∈ tb_J1_indexOf_4cfef cal, OKi G A 4 113 6344 ad0 p l e R s0 m args below meth c Q opsS ret r q.1 q.2 :=
    okc (ok_iload_n (j := 1) X (by decide +kernel) rfl rfl) (
    okc (ok_callS (Y := (yJ1_canEncode_9a6ad, cJ1_canEncode_9a6ad, 1, (some .boolean))) X hcal opsS_n md_J1_canEncode_9a6ad wc_J1_canEncode_9a6ad wl_J1_88 wi_J1 ws_J1_canEncode_9a6ad (by decide +kernel) (hRm 1 (by decide)) (by decide +kernel) rfl) (
    okc (ok_ifne (off := 5) X (by decide +kernel) (by decide) rfl) (
    okc (ok_iconst (n := -1) X (by decide +kernel) rfl rfl) (
    okc (ok_iret hret (by decide +kernel)) (
    okc (ok_iload_n (j := 2) X (by decide +kernel) rfl rfl) (
    okc (ok_iconst (n := 0) X (by decide +kernel) rfl rfl) (
    okc (ok_callS (Y := (yJ9_max_7cf53, cJ9_max_7cf53, 2, (some .int))) X hcal opsS_n md_J9_max_7cf53 wc_J9_max_7cf53 wl_J1_92 wi_J9 ws_J9_max_7cf53 (by decide +kernel) (hRm 2 (by decide)) (by decide +kernel) rfl) (
    okc (ok_istore_n (j := 2) X (by decide +kernel) rfl rfl) (
    okc (ok_iload_n (j := 3) X (by decide +kernel) rfl rfl) (
    okc (ok_aload_n (j := 0) X (by decide +kernel) rfl rfl) (
    okc (ok_slen X (by decide +kernel) rfl) (
    okc (ok_callS (Y := (yJ9_min_7cf53, cJ9_min_7cf53, 2, (some .int))) X hcal opsS_n md_J9_min_7cf53 wc_J9_min_7cf53 wl_J1_38 wi_J9 ws_J9_min_7cf53 (by decide +kernel) (hRm 2 (by decide)) (by decide +kernel) rfl) (
    okc (ok_istore_n (j := 3) X (by decide +kernel) rfl rfl) (
    okc (ok_iload_n (j := 2) X (by decide +kernel) rfl rfl) (
    okc (ok_iload_n (j := 3) X (by decide +kernel) rfl rfl) (
    okc (ok_clt (off := 5) X (by decide +kernel) (by decide) rfl) (
    okc (ok_iconst (n := -1) X (by decide +kernel) rfl rfl) (
    okc (ok_iret hret (by decide +kernel)) (
    okc (ok_aload_n (j := 0) X (by decide +kernel) rfl rfl) (
    okc (ok_iload_n (j := 1) X (by decide +kernel) rfl rfl) (
    okc (ok_iload_n (j := 2) X (by decide +kernel) rfl rfl) (
    okc (ok_iload_n (j := 3) X (by decide +kernel) rfl rfl) (
    okc (ok_callS (Y := (yJ1_indexOfChar_4cfef, cJ1_indexOfChar_4cfef, 6, (some .int))) X hcal opsS_n md_J1_indexOfChar_4cfef wc_J1_indexOfChar_4cfef wl_J1_95 wi_J1 ws_J1_indexOfChar_4cfef (by decide +kernel) (hRm 6 (by decide)) (by decide +kernel) rfl) (
    okc (ok_iret hret (by decide +kernel)) (
    okn)))))))))))))))))))))))))
noncomputable def es_J1_indexOf_4cfef  : List (Nat × En) := [(254, en_J1_canEncode_9a6ad), (267, en_J9_max_7cf53), (268, en_J9_min_7cf53), (256, en_J1_indexOfChar_4cfef)]
set_option maxRecDepth 100000 in
set_option maxHeartbeats 4000000 in
theorem eq_J1_indexOf_4cfef   (a0 : Int32) (a1 : Int32) (a2 : Int32) (s : SS) : ex (tb_J1_indexOf_4cfef (calE (es_J1_indexOf_4cfef))) rI [] (fun _ _ _ _ => none) 27 0 [some (.ref 203), some (.int a0), some (.int a1), some (.int a2)] [] s = f_J1_indexOf_4cfef a0 a1 a2 s := by
  rfl
set_option maxRecDepth 100000 in
set_option maxHeartbeats 4000000 in
theorem run_J1_indexOf_4cfef {l : Launch} {G : Gm}   (a0 : Int32) (a1 : Int32) (a2 : Int32) (s : SS) (q : (Int32 × SS)) (h : f_J1_indexOf_4cfef a0 a1 a2 s = some q) (D' : Nat) (hD : 1 ≤ D') : RunsM l G (D' + 1) (md 255) (embS s) [.ref 203, .int a0, .int a1, .int a2] (some (.int q.1)) (embS q.2) := by
  rw [md_J1_indexOf_4cfef]
  refine runs_I (by decide +kernel) (Nat.le_of_ble_eq_true rfl) rfl ?_
  intro A p e R s0 m args below meth c Q ad0 hR X hret
  have X : Cx G A RJ1 cJ1_indexOf_4cfef 4 p s0 m args c := X
  have hT := tk_J1_indexOf_4cfef X (calE_ok (es := es_J1_indexOf_4cfef) (enc (en_J1_canEncode_9a6ad_ok _ (by omega)) (enc (en_J9_max_7cf53_ok _ (by omega)) (enc (en_J9_min_7cf53_ok _ (by omega)) (enc (en_J1_indexOfChar_4cfef_ok _ (by omega)) (enn)))))) (rmD rfl hR) hret
  rw [← eq_J1_indexOf_4cfef   a0 a1 a2 s] at h
  refine ex_good hT (fun pc' ls' st' x' hh => ?_) 27 0 _ [] s h
  cases hh

noncomputable def en_J1_indexOf_4cfef  : En := fun _ av s k => match av with
  | [.ref r0, .int a0, .int a1, .int a2] => (gd (Nat.beq r0 203) (bI (f_J1_indexOf_4cfef a0 a1 a2 s) k))
  | _ => none
set_option maxRecDepth 100000 in
set_option maxHeartbeats 4000000 in
theorem en_J1_indexOf_4cfef_ok {l : Launch} {G : Gm} (D : Nat) (hD : 2 ≤ D) : enOK l G D 255 en_J1_indexOf_4cfef := by
  intro ρ av x k r h
  unfold en_J1_indexOf_4cfef at h
  split at h
  · obtain ⟨g0, h⟩ := gd_some h
    obtain ⟨q, h1, h2⟩ := bind_of h
    have e0 := beq1 g0
    subst e0
    obtain ⟨D', rfl⟩ : ∃ D', D = D' + 1 := ⟨D - 1, by omega⟩
    exact ⟨_, _, h2, run_J1_indexOf_4cfef  _ _ _ _ _ h1 D' (by omega)⟩
  · cases h

/-! java/lang/String indexOf -/
noncomputable def tb_J0_indexOf_7cf53 (cal : Cal SS) : List (Nat × Ins SS) := [(0, e_aload 0 1), (1, e_callX cal 252 0 4), (4, e_ifeq 23 7), (7, e_aload 0 8), (8, e_sval 11), (11, e_iload 1 12), (12, e_iload 2 13), (13, e_aload 0 14), (14, e_callX cal 248 0 17), (17, e_callS cal 255 4 20), (20, e_goto 36), (23, e_aload 0 24), (24, e_sval 27), (27, e_iload 1 28), (28, e_iload 2 29), (29, e_aload 0 30), (30, e_callX cal 248 0 33), (33, e_callS cal 259 4 36), (36, e_iret)]
set_option maxRecDepth 100000 in
set_option maxHeartbeats 4000000 in
theorem tk_J0_indexOf_7cf53 {ad0 : Nat → Nat} {G : Gm} {A : Nat → Prop} {p : Program} {l : Launch} {e : Env} {R : Room} {s0 : State} {m : MethodId} {args : Array Value} {below : List Frame} {meth : Method} {c : Code} {Q : State → Prop} {ρ : Type} {ret : Option Value → SS → Option ρ} {r : ρ} (X : Cx G A RJ0 cJ0_indexOf_7cf53 3 p s0 m args c) {D' : Nat} {cal : Cal SS} (hcal : calOK l G opsS D' cal) (hRm : ∀ k, k ≤ 21 → D' + 1 ≤ R.frames ∧ 8 + (k + 11) + 40 * D' ≤ R.locals) (hret : RetK G A cJ0_indexOf_7cf53 113 6344 ad0 p l e R s0 m args below meth c Q opsS ret r .ireturn okI) : ∀ q ∈ tb_J0_indexOf_7cf53 cal, OKi G A 3 113 6344 ad0 p l e R s0 m args below meth c Q opsS ret r q.1 q.2 :=
    okc (ok_aload_n (j := 0) X (by decide +kernel) rfl rfl) (
    okc (ok_callX (Y := (yJ0_isLatin1_aae02, cJ0_isLatin1_aae02, 1, (some .boolean))) X hcal opsS_n md_J0_isLatin1_aae02 rfl wc_J0_isLatin1_aae02 wl_J0_492 wi_J0 wm_J0_isLatin1_aae02 wv_J0_isLatin1_aae02 (by decide +kernel) (hRm 1 (by decide)) (by decide +kernel) rfl) (
    okc (ok_ifeq (off := 19) X (by decide +kernel) (by decide) rfl) (
    okc (ok_aload_n (j := 0) X (by decide +kernel) rfl rfl) (
    okc (ok_sval X wf_J0_9 (by decide +kernel) rfl) (
    okc (ok_iload_n (j := 1) X (by decide +kernel) rfl rfl) (
    okc (ok_iload_n (j := 2) X (by decide +kernel) rfl rfl) (
    okc (ok_aload_n (j := 0) X (by decide +kernel) rfl rfl) (
    okc (ok_callX (Y := (yJ0_length_8abf5, cJ0_length_8abf5, 1, (some .int))) X hcal opsS_n md_J0_length_8abf5 rfl wc_J0_length_8abf5 wl_J0_505 wi_J0 wm_J0_length_8abf5 wv_J0_length_8abf5 (by decide +kernel) (hRm 1 (by decide)) (by decide +kernel) rfl) (
    okc (ok_callS (Y := (yJ1_indexOf_4cfef, cJ1_indexOf_4cfef, 4, (some .int))) X hcal opsS_n md_J1_indexOf_4cfef wc_J1_indexOf_4cfef wl_J0_637 wi_J1 ws_J1_indexOf_4cfef (by decide +kernel) (hRm 4 (by decide)) (by decide +kernel) rfl) (
    okc (ok_goto (off := 16) X (by decide +kernel) (by decide)) (
    okc (ok_aload_n (j := 0) X (by decide +kernel) rfl rfl) (
    okc (ok_sval X wf_J0_9 (by decide +kernel) rfl) (
    okc (ok_iload_n (j := 1) X (by decide +kernel) rfl rfl) (
    okc (ok_iload_n (j := 2) X (by decide +kernel) rfl rfl) (
    okc (ok_aload_n (j := 0) X (by decide +kernel) rfl rfl) (
    okc (ok_callX (Y := (yJ0_length_8abf5, cJ0_length_8abf5, 1, (some .int))) X hcal opsS_n md_J0_length_8abf5 rfl wc_J0_length_8abf5 wl_J0_505 wi_J0 wm_J0_length_8abf5 wv_J0_length_8abf5 (by decide +kernel) (hRm 1 (by decide)) (by decide +kernel) rfl) (
    okc (ok_callS (Y := (yJ2_indexOf_4cfef, cJ2_indexOf_4cfef, 4, (some .int))) X hcal opsS_n md_J2_indexOf_4cfef wc_J2_indexOf_4cfef wl_J0_640 wi_J2 ws_J2_indexOf_4cfef (by decide +kernel) (hRm 4 (by decide)) (by decide +kernel) rfl) (
    okc (ok_iret hret (by decide +kernel)) (
    okn)))))))))))))))))))
noncomputable def es_J0_indexOf_7cf53  : List (Nat × En) := [(252, en_J0_isLatin1_aae02), (248, en_J0_length_8abf5), (255, en_J1_indexOf_4cfef)]
set_option maxRecDepth 100000 in
set_option maxHeartbeats 4000000 in
theorem eq_J0_indexOf_7cf53   (a0 : Int32) (a1 : Int32) (s : SS) : ex (tb_J0_indexOf_7cf53 (calE (es_J0_indexOf_7cf53))) rI [] (fun _ _ _ _ => none) 21 0 [some (.ref 202), some (.int a0), some (.int a1)] [] s = f_J0_indexOf_7cf53 a0 a1 s := by
  rfl
set_option maxRecDepth 100000 in
set_option maxHeartbeats 4000000 in
theorem run_J0_indexOf_7cf53 {l : Launch} {G : Gm}   (a0 : Int32) (a1 : Int32) (s : SS) (q : (Int32 × SS)) (h : f_J0_indexOf_7cf53 a0 a1 s = some q) (D' : Nat) (hD : 2 ≤ D') : RunsM l G (D' + 1) (md 250) (embS s) [.ref 202, .int a0, .int a1] (some (.int q.1)) (embS q.2) := by
  rw [md_J0_indexOf_7cf53]
  refine runs_I (by decide +kernel) (Nat.le_of_ble_eq_true rfl) rfl ?_
  intro A p e R s0 m args below meth c Q ad0 hR X hret
  have X : Cx G A RJ0 cJ0_indexOf_7cf53 3 p s0 m args c := X
  have hT := tk_J0_indexOf_7cf53 X (calE_ok (es := es_J0_indexOf_7cf53) (enc (en_J0_isLatin1_aae02_ok _ (by omega)) (enc (en_J0_length_8abf5_ok _ (by omega)) (enc (en_J1_indexOf_4cfef_ok _ (by omega)) (enn))))) (rmD rfl hR) hret
  rw [← eq_J0_indexOf_7cf53   a0 a1 s] at h
  refine ex_good hT (fun pc' ls' st' x' hh => ?_) 21 0 _ [] s h
  cases hh

noncomputable def en_J0_indexOf_7cf53  : En := fun _ av s k => match av with
  | [.ref r0, .int a0, .int a1] => (gd (Nat.beq r0 202) (bI (f_J0_indexOf_7cf53 a0 a1 s) k))
  | _ => none
set_option maxRecDepth 100000 in
set_option maxHeartbeats 4000000 in
theorem en_J0_indexOf_7cf53_ok {l : Launch} {G : Gm} (D : Nat) (hD : 3 ≤ D) : enOK l G D 250 en_J0_indexOf_7cf53 := by
  intro ρ av x k r h
  unfold en_J0_indexOf_7cf53 at h
  split at h
  · obtain ⟨g0, h⟩ := gd_some h
    obtain ⟨q, h1, h2⟩ := bind_of h
    have e0 := beq1 g0
    subst e0
    obtain ⟨D', rfl⟩ : ∃ D', D = D' + 1 := ⟨D - 1, by omega⟩
    exact ⟨_, _, h2, run_J0_indexOf_7cf53  _ _ _ _ h1 D' (by omega)⟩
  · cases h

/-! java/lang/String indexOf -/
noncomputable def tb_J0_indexOf_0f7a4 (cal : Cal SS) : List (Nat × Ins SS) := [(0, e_aload 0 1), (1, e_iload 1 2), (2, e_iconst (0) 3), (3, e_callX cal 250 2 6), (6, e_iret)]
set_option maxRecDepth 100000 in
set_option maxHeartbeats 4000000 in
theorem tk_J0_indexOf_0f7a4 {ad0 : Nat → Nat} {G : Gm} {A : Nat → Prop} {p : Program} {l : Launch} {e : Env} {R : Room} {s0 : State} {m : MethodId} {args : Array Value} {below : List Frame} {meth : Method} {c : Code} {Q : State → Prop} {ρ : Type} {ret : Option Value → SS → Option ρ} {r : ρ} (X : Cx G A RJ0 cJ0_indexOf_0f7a4 2 p s0 m args c) {D' : Nat} {cal : Cal SS} (hcal : calOK l G opsS D' cal) (hRm : ∀ k, k ≤ 21 → D' + 1 ≤ R.frames ∧ 8 + (k + 11) + 40 * D' ≤ R.locals) (hret : RetK G A cJ0_indexOf_0f7a4 113 6344 ad0 p l e R s0 m args below meth c Q opsS ret r .ireturn okI) : ∀ q ∈ tb_J0_indexOf_0f7a4 cal, OKi G A 2 113 6344 ad0 p l e R s0 m args below meth c Q opsS ret r q.1 q.2 :=
    okc (ok_aload_n (j := 0) X (by decide +kernel) rfl rfl) (
    okc (ok_iload_n (j := 1) X (by decide +kernel) rfl rfl) (
    okc (ok_iconst (n := 0) X (by decide +kernel) rfl rfl) (
    okc (ok_callX (Y := (yJ0_indexOf_7cf53, cJ0_indexOf_7cf53, 3, (some .int))) X hcal opsS_n md_J0_indexOf_7cf53 rfl wc_J0_indexOf_7cf53 wl_J0_633 wi_J0 wm_J0_indexOf_7cf53 wv_J0_indexOf_7cf53 (by decide +kernel) (hRm 3 (by decide)) (by decide +kernel) rfl) (
    okc (ok_iret hret (by decide +kernel)) (
    okn)))))
noncomputable def es_J0_indexOf_0f7a4  : List (Nat × En) := [(250, en_J0_indexOf_7cf53)]
set_option maxRecDepth 100000 in
set_option maxHeartbeats 4000000 in
theorem eq_J0_indexOf_0f7a4   (a0 : Int32) (s : SS) : ex (tb_J0_indexOf_0f7a4 (calE (es_J0_indexOf_0f7a4))) rI [] (fun _ _ _ _ => none) 7 0 [some (.ref 202), some (.int a0)] [] s = f_J0_indexOf_0f7a4 a0 s := by
  rfl
set_option maxRecDepth 100000 in
set_option maxHeartbeats 4000000 in
theorem run_J0_indexOf_0f7a4 {l : Launch} {G : Gm}   (a0 : Int32) (s : SS) (q : (Int32 × SS)) (h : f_J0_indexOf_0f7a4 a0 s = some q) (D' : Nat) (hD : 3 ≤ D') : RunsM l G (D' + 1) (md 249) (embS s) [.ref 202, .int a0] (some (.int q.1)) (embS q.2) := by
  rw [md_J0_indexOf_0f7a4]
  refine runs_I (by decide +kernel) (Nat.le_of_ble_eq_true rfl) rfl ?_
  intro A p e R s0 m args below meth c Q ad0 hR X hret
  have X : Cx G A RJ0 cJ0_indexOf_0f7a4 2 p s0 m args c := X
  have hT := tk_J0_indexOf_0f7a4 X (calE_ok (es := es_J0_indexOf_0f7a4) (enc (en_J0_indexOf_7cf53_ok _ (by omega)) (enn))) (rmD rfl hR) hret
  rw [← eq_J0_indexOf_0f7a4   a0 s] at h
  refine ex_good hT (fun pc' ls' st' x' hh => ?_) 7 0 _ [] s h
  cases hh

noncomputable def en_J0_indexOf_0f7a4  : En := fun _ av s k => match av with
  | [.ref r0, .int a0] => (gd (Nat.beq r0 202) (bI (f_J0_indexOf_0f7a4 a0 s) k))
  | _ => none
set_option maxRecDepth 100000 in
set_option maxHeartbeats 4000000 in
theorem en_J0_indexOf_0f7a4_ok {l : Launch} {G : Gm} (D : Nat) (hD : 4 ≤ D) : enOK l G D 249 en_J0_indexOf_0f7a4 := by
  intro ρ av x k r h
  unfold en_J0_indexOf_0f7a4 at h
  split at h
  · obtain ⟨g0, h⟩ := gd_some h
    obtain ⟨q, h1, h2⟩ := bind_of h
    have e0 := beq1 g0
    subst e0
    obtain ⟨D', rfl⟩ : ∃ D', D = D' + 1 := ⟨D - 1, by omega⟩
    exact ⟨_, _, h2, run_J0_indexOf_0f7a4  _ _ _ h1 D' (by omega)⟩
  · cases h

