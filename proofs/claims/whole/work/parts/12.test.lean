/-! java/util/Arrays fill -/
def tb_J7_fill_53178 (cal : Cal SS) : List (Nat × Ins SS) := [(0, e_iconst (0) 1), (1, e_istore 2 2), (2, e_aload 0 3), (3, e_alen opsS 4), (4, e_istore 3 5), (5, e_iload 2 6), (6, e_iload 3 7), (7, e_cge 20 10), (10, e_aload 0 11), (11, e_iload 2 12), (12, e_iload 1 13), (13, e_ast opsS 100 (fun v => v) 14), (14, e_iinc 2 (1) 17), (17, e_goto 5), (20, e_vret)]
set_option maxRecDepth 100000 in
set_option maxHeartbeats 4000000 in
theorem tk_J7_fill_53178 {ad0 : Nat → Nat} {G : Gm} {A : Nat → Prop} {p : Program} {l : Launch} {e : Env} {R : Room} {s0 : State} {m : MethodId} {args : Array Value} {below : List Frame} {meth : Method} {c : Code} {Q : State → Prop} {ρ : Type} {ret : Option Value → SS → Option ρ} {r : ρ} (X : Cx G A RJ7 cJ7_fill_53178 4 p s0 m args c) {D' : Nat} {cal : Cal SS} (hcal : calOK l G opsS D' cal) (hRm : ∀ k, k ≤ 21 → D' + 1 ≤ R.frames ∧ 8 + (k + 11) + 40 * D' ≤ R.locals) (hret : RetK G A cJ7_fill_53178 113 6344 ad0 p l e R s0 m args below meth c Q opsS ret r .return_ okV) : ∀ q ∈ tb_J7_fill_53178 cal, OKi G A 4 113 6344 ad0 p l e R s0 m args below meth c Q opsS ret r q.1 q.2 :=
    okc (ok_iconst (n := 0) X (by decide +kernel) rfl rfl) (
    okc (ok_istore_n (j := 2) X (by decide +kernel) rfl rfl) (
    okc (ok_aload_n (j := 0) X (by decide +kernel) rfl rfl) (
    okc (ok_alen X (by decide +kernel) rfl) (
    okc (ok_istore_n (j := 3) X (by decide +kernel) rfl rfl) (
    okc (ok_iload_n (j := 2) X (by decide +kernel) rfl rfl) (
    okc (ok_iload_n (j := 3) X (by decide +kernel) rfl rfl) (
    okc (ok_cge (off := 13) X (by decide +kernel) (by decide) rfl) (
    okc (ok_aload_n (j := 0) X (by decide +kernel) rfl rfl) (
    okc (ok_iload_n (j := 2) X (by decide +kernel) rfl rfl) (
    okc (ok_iload_n (j := 1) X (by decide +kernel) rfl rfl) (
    okc (ok_iast X opsS_ok (by decide +kernel) rfl) (
    okc (ok_iinc (n := 1) X (by decide +kernel) rfl rfl) (
    okc (ok_goto (off := -12) X (by decide +kernel) (by decide)) (
    okc (ok_vret hret (by decide +kernel)) (
    okn)))))))))))))))
noncomputable def F_J7_fill_53178_5 (d : Nat)  : Nat → Int32 → Int32 → Int32 → SS → Option SS
  | 0, _, _, _, _ => none
  | n + 1, x1, x2, x3, s => (if x2 < x3 then (gd (inb x2 1440) (let s1 : SS := pI s d x2.toNatClampNeg x1; (let v2 : Int32 := x2 + (1 : Int32); (F_J7_fill_53178_5 d n x1 v2 x3 s1)))) else (some s))
noncomputable def f_J7_fill_53178 (d : Nat) (a0 : Int32) (s : SS) : Option SS := (F_J7_fill_53178_5 d fuel0 a0 (0 : Int32) (1440 : Int32) s)
noncomputable def es_J7_fill_53178  : List (Nat × En) := []
noncomputable def ka_J7_fill_53178_5 (d : Nat)  (n : Nat) : Kn SS SS := fun pc ls st s => bif Nat.beq pc 5 then (match ls, st with
    | [some y0, some (.int x1), some (.int x2), some (.int x3)], [] => (gd (veq y0 (.ref d)) (F_J7_fill_53178_5 d n x1 x2 x3 s))
    | _, _ => none) else (none)
set_option maxRecDepth 100000 in
set_option maxHeartbeats 4000000 in
theorem eq_J7_fill_53178_5 (d : Nat)  (hd : (Nat.beq d 28) = true) (n : Nat) (x1 : Int32) (x2 : Int32) (x3 : Int32) (s : SS) : ex (tb_J7_fill_53178 (calE (es_J7_fill_53178))) rV [5] (ka_J7_fill_53178_5 d  n) 17 5 [some (.ref d), some (.int x1), some (.int x2), some (.int x3)] [] s = F_J7_fill_53178_5 d  (n + 1) x1 x2 x3 s := by
  rcases beq1 hd with rfl <;> rfl
set_option maxRecDepth 100000 in
set_option maxHeartbeats 4000000 in
theorem gd_J7_fill_53178_5 {ad0 : Nat → Nat} {G : Gm} {A : Nat → Prop} {p : Program} {l : Launch} {e : Env} {R : Room} {s0 : State} {m : MethodId} {args : Array Value} {below : List Frame} {meth : Method} {c : Code} {Q : State → Prop} {r : SS} {d : Nat}  (hT : ∀ q ∈ tb_J7_fill_53178 (calE (es_J7_fill_53178)), OKi G A 4 113 6344 ad0 p l e R s0 m args below meth c Q opsS rV r q.1 q.2)  (hd : (Nat.beq d 28) = true) : ∀ (n : Nat) (x1 : Int32) (x2 : Int32) (x3 : Int32) (s : SS), F_J7_fill_53178_5 d  n x1 x2 x3 s = some r → Gd G A 4 113 6344 ad0 p l e R s0 m args below meth c Q opsS 5 [some (.ref d), some (.int x1), some (.int x2), some (.int x3)] [] s := by
  intro n
  induction n with
  | zero =>
    intro x1 x2 x3 s hh
    exact absurd (show (none : Option SS) = some r from hh) (by simp)
  | succ n ih =>
    intro x1 x2 x3 s hh
    rw [← eq_J7_fill_53178_5 d  hd n x1 x2 x3 s] at hh
    refine ex_good hT (fun pc' ls' st' x' hh => ?_) 17 5 _ [] s hh
    unfold ka_J7_fill_53178_5 at hh
    cases hb : Nat.beq pc' 5 with
    | true =>
      rw [hb] at hh
      have e9 := beq1 hb
      subst e9
      simp only [cond_true] at hh
      split at hh
      · obtain ⟨g0, hh1⟩ := gd_some hh
        have e0 := veq_of g0
        subst e0
        exact Gd.wk (ih _ _ _ _ hh1) (Lle.eq (Lle.eq (Lle.eq (Lle.eq Lle.nil))))
      · cases hh
    | false =>
      rw [hb] at hh
      simp only [cond_false] at hh
      cases hh

noncomputable def ka_J7_fill_53178 (d : Nat) : Kn SS SS := fun pc ls st s => bif Nat.beq pc 5 then (match ls, st with
    | [some y0, some (.int x1), some (.int x2), some (.int x3)], [] => (gd (veq y0 (.ref d)) (F_J7_fill_53178_5 d fuel0 x1 x2 x3 s))
    | _, _ => none) else (none)
set_option maxRecDepth 100000 in
set_option maxHeartbeats 4000000 in
theorem eq_J7_fill_53178 (d : Nat) (hd : (Nat.beq d 28) = true) (a0 : Int32) (s : SS) : ex (tb_J7_fill_53178 (calE (es_J7_fill_53178))) rV [5] (ka_J7_fill_53178 d) 17 0 [some (.ref d), some (.int a0), none, none] [] s = f_J7_fill_53178 d a0 s := by
  rcases beq1 hd with rfl <;> rfl
set_option maxRecDepth 100000 in
set_option maxHeartbeats 4000000 in
theorem run_J7_fill_53178 {l : Launch} {G : Gm} {d : Nat} (hd : (Nat.beq d 28) = true) (a0 : Int32) (s : SS) (q : SS) (h : f_J7_fill_53178 d a0 s = some q) (D' : Nat) (hD : 0 ≤ D') : RunsM l G (D' + 1) (md 266) (embS s) [.ref d, .int a0] none (embS q) := by
  rw [md_J7_fill_53178]
  refine runs_V (by decide +kernel) (Nat.le_of_ble_eq_true rfl) rfl ?_
  intro A p e R s0 m args below meth c Q ad0 hR X hret
  have X : Cx G A RJ7 cJ7_fill_53178 4 p s0 m args c := X
  have hT := tk_J7_fill_53178 X (calE_ok (es := es_J7_fill_53178) (enn)) (rmD rfl hR) hret
  rw [← eq_J7_fill_53178 d hd a0 s] at h
  refine ex_good hT (fun pc' ls' st' x' hh => ?_) 17 0 _ [] s h
  unfold ka_J7_fill_53178 at hh
  cases hb : Nat.beq pc' 5 with
  | true =>
    rw [hb] at hh
    have e9 := beq1 hb
    subst e9
    simp only [cond_true] at hh
    split at hh
    · obtain ⟨g0, hh1⟩ := gd_some hh
      have e0 := veq_of g0
      subst e0
      exact Gd.wk (gd_J7_fill_53178_5 hT hd _ _ _ _ _ hh1) (Lle.eq (Lle.eq (Lle.eq (Lle.eq Lle.nil))))
    · cases hh
  | false =>
    rw [hb] at hh
    simp only [cond_false] at hh
    cases hh

noncomputable def en_J7_fill_53178  : En := fun _ av s k => match av with
  | [.ref d, .int a0] => (gd (Nat.beq d 28) (bV (f_J7_fill_53178 d a0 s) k))
  | _ => none
set_option maxRecDepth 100000 in
set_option maxHeartbeats 4000000 in
theorem en_J7_fill_53178_ok {l : Launch} {G : Gm} (D : Nat) (hD : 1 ≤ D) : enOK l G D 266 en_J7_fill_53178 := by
  intro ρ av x k r h
  unfold en_J7_fill_53178 at h
  split at h
  · obtain ⟨g0, h⟩ := gd_some h
    obtain ⟨q, h1, h2⟩ := bind_of h
    obtain ⟨D', rfl⟩ : ∃ D', D = D' + 1 := ⟨D - 1, by omega⟩
    exact ⟨_, _, h2, run_J7_fill_53178 g0 _ _ _ h1 D' (by omega)⟩
  · cases h

/-! HatRank$Town hasPlace -/
def tb_X9_hasPlace (cal : Cal SS) : List (Nat × Ins SS) := [(0, e_iload 1 1), (1, e_iflt 16 4), (4, e_iload 1 5), (5, e_aload 0 6), (6, e_getI opsS 9 1 9), (9, e_cge 16 12), (12, e_iconst (1) 13), (13, e_goto 17), (16, e_iconst (0) 17), (17, e_zret)]
set_option maxRecDepth 100000 in
set_option maxHeartbeats 4000000 in
theorem tk_X9_hasPlace {ad0 : Nat → Nat} {G : Gm} {A : Nat → Prop} {p : Program} {l : Launch} {e : Env} {R : Room} {s0 : State} {m : MethodId} {args : Array Value} {below : List Frame} {meth : Method} {c : Code} {Q : State → Prop} {ρ : Type} {ret : Option Value → SS → Option ρ} {r : ρ} (X : Cx G A RX9 cX9_hasPlace 2 p s0 m args c) {D' : Nat} {cal : Cal SS} (hcal : calOK l G opsS D' cal) (hRm : ∀ k, k ≤ 21 → D' + 1 ≤ R.frames ∧ 8 + (k + 11) + 40 * D' ≤ R.locals) (hret : RetK G A cX9_hasPlace 113 6344 ad0 p l e R s0 m args below meth c Q opsS ret r .ireturn okZ) : ∀ q ∈ tb_X9_hasPlace cal, OKi G A 2 113 6344 ad0 p l e R s0 m args below meth c Q opsS ret r q.1 q.2 :=
    okc (ok_iload_n (j := 1) X (by decide +kernel) rfl rfl) (
    okc (ok_iflt (off := 15) X (by decide +kernel) (by decide) rfl) (
    okc (ok_iload_n (j := 1) X (by decide +kernel) rfl rfl) (
    okc (ok_aload_n (j := 0) X (by decide +kernel) rfl rfl) (
    okc (ok_getI (ci := 9) (kf := 1) (idx := 37) (C := RX9) (T := TX9) (N := 8) X rfl (by decide) inX9 (by decide) wf_X9_37 (fun _ _ _ => rfl) (by decide +kernel) rfl) (
    okc (ok_cge (off := 7) X (by decide +kernel) (by decide) rfl) (
    okc (ok_iconst (n := 1) X (by decide +kernel) rfl rfl) (
    okc (ok_goto (off := 4) X (by decide +kernel) (by decide)) (
    okc (ok_iconst (n := 0) X (by decide +kernel) rfl rfl) (
    okc (ok_zret hret (by decide +kernel)) (
    okn))))))))))
noncomputable def f_X9_hasPlace  (a0 : Int32) (s : SS) : Option (Int32 × SS) := (if a0 < 0 then (some ((0 : Int32), s)) else (if a0 < (s.1 1 1) then (some ((1 : Int32), s)) else (some ((0 : Int32), s))))
noncomputable def es_X9_hasPlace  : List (Nat × En) := []
set_option maxRecDepth 100000 in
set_option maxHeartbeats 4000000 in
theorem eq_X9_hasPlace   (a0 : Int32) (s : SS) : ex (tb_X9_hasPlace (calE (es_X9_hasPlace))) rI [] (fun _ _ _ _ => none) 12 0 [some (.ref 1), some (.int a0)] [] s = f_X9_hasPlace a0 s := by
  rfl
set_option maxRecDepth 100000 in
set_option maxHeartbeats 4000000 in
theorem run_X9_hasPlace {l : Launch} {G : Gm}   (a0 : Int32) (s : SS) (q : (Int32 × SS)) (h : f_X9_hasPlace a0 s = some q) (D' : Nat) (hD : 0 ≤ D') : RunsM l G (D' + 1) (md 78) (embS s) [.ref 1, .int a0] (some (.int q.1)) (embS q.2) := by
  rw [md_X9_hasPlace]
  refine runs_Z (plainFor_of_name (by decide +kernel)) (Nat.le_of_ble_eq_true rfl) rfl ?_
  intro A p e R s0 m args below meth c Q ad0 hR X hret
  have X : Cx G A RX9 cX9_hasPlace 2 p s0 m args c := X
  have hT := tk_X9_hasPlace X (calE_ok (es := es_X9_hasPlace) (enn)) (rmD rfl hR) hret
  rw [← eq_X9_hasPlace   a0 s] at h
  refine ex_good hT (fun pc' ls' st' x' hh => ?_) 12 0 _ [] s h
  cases hh

noncomputable def en_X9_hasPlace  : En := fun _ av s k => match av with
  | [.ref r0, .int a0] => (gd (Nat.beq r0 1) (bI (f_X9_hasPlace a0 s) k))
  | _ => none
set_option maxRecDepth 100000 in
set_option maxHeartbeats 4000000 in
theorem en_X9_hasPlace_ok {l : Launch} {G : Gm} (D : Nat) (hD : 1 ≤ D) : enOK l G D 78 en_X9_hasPlace := by
  intro ρ av x k r h
  unfold en_X9_hasPlace at h
  split at h
  · obtain ⟨g0, h⟩ := gd_some h
    obtain ⟨q, h1, h2⟩ := bind_of h
    have e0 := beq1 g0
    subst e0
    obtain ⟨D', rfl⟩ : ∃ D', D = D' + 1 := ⟨D - 1, by omega⟩
    exact ⟨_, _, h2, run_X9_hasPlace  _ _ _ h1 D' (by omega)⟩
  · cases h

/-! java/lang/Math max -/
def tb_J9_max_7cf53 (cal : Cal SS) : List (Nat × Ins SS) := [(0, e_iload 0 1), (1, e_iload 1 2), (2, e_clt 9 5), (5, e_iload 0 6), (6, e_goto 10), (9, e_iload 1 10), (10, e_iret)]
set_option maxRecDepth 100000 in
set_option maxHeartbeats 4000000 in
theorem tk_J9_max_7cf53 {ad0 : Nat → Nat} {G : Gm} {A : Nat → Prop} {p : Program} {l : Launch} {e : Env} {R : Room} {s0 : State} {m : MethodId} {args : Array Value} {below : List Frame} {meth : Method} {c : Code} {Q : State → Prop} {ρ : Type} {ret : Option Value → SS → Option ρ} {r : ρ} (X : Cx G A RJ9 cJ9_max_7cf53 2 p s0 m args c) {D' : Nat} {cal : Cal SS} (hcal : calOK l G opsS D' cal) (hRm : ∀ k, k ≤ 21 → D' + 1 ≤ R.frames ∧ 8 + (k + 11) + 40 * D' ≤ R.locals) (hret : RetK G A cJ9_max_7cf53 113 6344 ad0 p l e R s0 m args below meth c Q opsS ret r .ireturn okI) : ∀ q ∈ tb_J9_max_7cf53 cal, OKi G A 2 113 6344 ad0 p l e R s0 m args below meth c Q opsS ret r q.1 q.2 :=
    okc (ok_iload_n (j := 0) X (by decide +kernel) rfl rfl) (
    okc (ok_iload_n (j := 1) X (by decide +kernel) rfl rfl) (
    okc (ok_clt (off := 7) X (by decide +kernel) (by decide) rfl) (
    okc (ok_iload_n (j := 0) X (by decide +kernel) rfl rfl) (
    okc (ok_goto (off := 4) X (by decide +kernel) (by decide)) (
    okc (ok_iload_n (j := 1) X (by decide +kernel) rfl rfl) (
    okc (ok_iret hret (by decide +kernel)) (
    okn)))))))
noncomputable def f_J9_max_7cf53  (a0 : Int32) (a1 : Int32) (s : SS) : Option (Int32 × SS) := (if a0 < a1 then (some (a1, s)) else (some (a0, s)))
noncomputable def es_J9_max_7cf53  : List (Nat × En) := []
set_option maxRecDepth 100000 in
set_option maxHeartbeats 4000000 in
theorem eq_J9_max_7cf53   (a0 : Int32) (a1 : Int32) (s : SS) : ex (tb_J9_max_7cf53 (calE (es_J9_max_7cf53))) rI [] (fun _ _ _ _ => none) 9 0 [some (.int a0), some (.int a1)] [] s = f_J9_max_7cf53 a0 a1 s := by
  rfl
set_option maxRecDepth 100000 in
set_option maxHeartbeats 4000000 in
theorem run_J9_max_7cf53 {l : Launch} {G : Gm}   (a0 : Int32) (a1 : Int32) (s : SS) (q : (Int32 × SS)) (h : f_J9_max_7cf53 a0 a1 s = some q) (D' : Nat) (hD : 0 ≤ D') : RunsM l G (D' + 1) (md 267) (embS s) [.int a0, .int a1] (some (.int q.1)) (embS q.2) := by
  rw [md_J9_max_7cf53]
  refine runs_I (by decide +kernel) (Nat.le_of_ble_eq_true rfl) rfl ?_
  intro A p e R s0 m args below meth c Q ad0 hR X hret
  have X : Cx G A RJ9 cJ9_max_7cf53 2 p s0 m args c := X
  have hT := tk_J9_max_7cf53 X (calE_ok (es := es_J9_max_7cf53) (enn)) (rmD rfl hR) hret
  rw [← eq_J9_max_7cf53   a0 a1 s] at h
  refine ex_good hT (fun pc' ls' st' x' hh => ?_) 9 0 _ [] s h
  cases hh

noncomputable def en_J9_max_7cf53  : En := fun _ av s k => match av with
  | [.int a0, .int a1] => (bI (f_J9_max_7cf53 a0 a1 s) k)
  | _ => none
set_option maxRecDepth 100000 in
set_option maxHeartbeats 4000000 in
theorem en_J9_max_7cf53_ok {l : Launch} {G : Gm} (D : Nat) (hD : 1 ≤ D) : enOK l G D 267 en_J9_max_7cf53 := by
  intro ρ av x k r h
  unfold en_J9_max_7cf53 at h
  split at h
  · obtain ⟨q, h1, h2⟩ := bind_of h
    obtain ⟨D', rfl⟩ : ∃ D', D = D' + 1 := ⟨D - 1, by omega⟩
    exact ⟨_, _, h2, run_J9_max_7cf53  _ _ _ _ h1 D' (by omega)⟩
  · cases h

/-! java/lang/Math min -/
def tb_J9_min_7cf53 (cal : Cal SS) : List (Nat × Ins SS) := [(0, e_iload 0 1), (1, e_iload 1 2), (2, e_cgt 9 5), (5, e_iload 0 6), (6, e_goto 10), (9, e_iload 1 10), (10, e_iret)]
set_option maxRecDepth 100000 in
set_option maxHeartbeats 4000000 in
theorem tk_J9_min_7cf53 {ad0 : Nat → Nat} {G : Gm} {A : Nat → Prop} {p : Program} {l : Launch} {e : Env} {R : Room} {s0 : State} {m : MethodId} {args : Array Value} {below : List Frame} {meth : Method} {c : Code} {Q : State → Prop} {ρ : Type} {ret : Option Value → SS → Option ρ} {r : ρ} (X : Cx G A RJ9 cJ9_min_7cf53 2 p s0 m args c) {D' : Nat} {cal : Cal SS} (hcal : calOK l G opsS D' cal) (hRm : ∀ k, k ≤ 21 → D' + 1 ≤ R.frames ∧ 8 + (k + 11) + 40 * D' ≤ R.locals) (hret : RetK G A cJ9_min_7cf53 113 6344 ad0 p l e R s0 m args below meth c Q opsS ret r .ireturn okI) : ∀ q ∈ tb_J9_min_7cf53 cal, OKi G A 2 113 6344 ad0 p l e R s0 m args below meth c Q opsS ret r q.1 q.2 :=
    okc (ok_iload_n (j := 0) X (by decide +kernel) rfl rfl) (
    okc (ok_iload_n (j := 1) X (by decide +kernel) rfl rfl) (
    okc (ok_cgt (off := 7) X (by decide +kernel) (by decide) rfl) (
    okc (ok_iload_n (j := 0) X (by decide +kernel) rfl rfl) (
    okc (ok_goto (off := 4) X (by decide +kernel) (by decide)) (
    okc (ok_iload_n (j := 1) X (by decide +kernel) rfl rfl) (
    okc (ok_iret hret (by decide +kernel)) (
    okn)))))))
noncomputable def f_J9_min_7cf53  (a0 : Int32) (a1 : Int32) (s : SS) : Option (Int32 × SS) := (if a1 < a0 then (some (a1, s)) else (some (a0, s)))
noncomputable def es_J9_min_7cf53  : List (Nat × En) := []
set_option maxRecDepth 100000 in
set_option maxHeartbeats 4000000 in
theorem eq_J9_min_7cf53   (a0 : Int32) (a1 : Int32) (s : SS) : ex (tb_J9_min_7cf53 (calE (es_J9_min_7cf53))) rI [] (fun _ _ _ _ => none) 9 0 [some (.int a0), some (.int a1)] [] s = f_J9_min_7cf53 a0 a1 s := by
  rfl
set_option maxRecDepth 100000 in
set_option maxHeartbeats 4000000 in
theorem run_J9_min_7cf53 {l : Launch} {G : Gm}   (a0 : Int32) (a1 : Int32) (s : SS) (q : (Int32 × SS)) (h : f_J9_min_7cf53 a0 a1 s = some q) (D' : Nat) (hD : 0 ≤ D') : RunsM l G (D' + 1) (md 268) (embS s) [.int a0, .int a1] (some (.int q.1)) (embS q.2) := by
  rw [md_J9_min_7cf53]
  refine runs_I (by decide +kernel) (Nat.le_of_ble_eq_true rfl) rfl ?_
  intro A p e R s0 m args below meth c Q ad0 hR X hret
  have X : Cx G A RJ9 cJ9_min_7cf53 2 p s0 m args c := X
  have hT := tk_J9_min_7cf53 X (calE_ok (es := es_J9_min_7cf53) (enn)) (rmD rfl hR) hret
  rw [← eq_J9_min_7cf53   a0 a1 s] at h
  refine ex_good hT (fun pc' ls' st' x' hh => ?_) 9 0 _ [] s h
  cases hh

noncomputable def en_J9_min_7cf53  : En := fun _ av s k => match av with
  | [.int a0, .int a1] => (bI (f_J9_min_7cf53 a0 a1 s) k)
  | _ => none
set_option maxRecDepth 100000 in
set_option maxHeartbeats 4000000 in
theorem en_J9_min_7cf53_ok {l : Launch} {G : Gm} (D : Nat) (hD : 1 ≤ D) : enOK l G D 268 en_J9_min_7cf53 := by
  intro ρ av x k r h
  unfold en_J9_min_7cf53 at h
  split at h
  · obtain ⟨q, h1, h2⟩ := bind_of h
    obtain ⟨D', rfl⟩ : ∃ D', D = D' + 1 := ⟨D - 1, by omega⟩
    exact ⟨_, _, h2, run_J9_min_7cf53  _ _ _ _ h1 D' (by omega)⟩
  · cases h

/-! HatRank$Town joined -/
def tb_X9_joined (cal : Cal SS) : List (Nat × Ins SS) := [(0, e_aload 0 1), (1, e_iload 1 2), (2, e_callV opsS cal 78 1 9 5), (5, e_ifeq 33 8), (8, e_aload 0 9), (9, e_iload 2 10), (10, e_callV opsS cal 78 1 9 13), (13, e_ifeq 33 16), (16, e_aload 0 17), (17, e_getR opsS 9 7 20), (20, e_iload 1 21), (21, e_ald opsS 100 22), (22, e_iload 2 23), (23, e_bin (fun x y => x >>> (y &&& 31)) 24), (24, e_iconst (1) 25), (25, e_bin (fun x y => x &&& y) 26), (26, e_ifeq 33 29), (29, e_iconst (1) 30), (30, e_goto 34), (33, e_iconst (0) 34), (34, e_zret)]
set_option maxRecDepth 100000 in
set_option maxHeartbeats 4000000 in
theorem tk_X9_joined {ad0 : Nat → Nat} {G : Gm} {A : Nat → Prop} {p : Program} {l : Launch} {e : Env} {R : Room} {s0 : State} {m : MethodId} {args : Array Value} {below : List Frame} {meth : Method} {c : Code} {Q : State → Prop} {ρ : Type} {ret : Option Value → SS → Option ρ} {r : ρ} (X : Cx G A RX9 cX9_joined 3 p s0 m args c) {D' : Nat} {cal : Cal SS} (hcal : calOK l G opsS D' cal) (hRm : ∀ k, k ≤ 21 → D' + 1 ≤ R.frames ∧ 8 + (k + 11) + 40 * D' ≤ R.locals) (hret : RetK G A cX9_joined 113 6344 ad0 p l e R s0 m args below meth c Q opsS ret r .ireturn okZ) : ∀ q ∈ tb_X9_joined cal, OKi G A 3 113 6344 ad0 p l e R s0 m args below meth c Q opsS ret r q.1 q.2 :=
    okc (ok_aload_n (j := 0) X (by decide +kernel) rfl rfl) (
    okc (ok_iload_n (j := 1) X (by decide +kernel) rfl rfl) (
    okc (ok_callV (ci := 9) (C := RX9) (T := TX9) (N := 8) (Y := (yX9_hasPlace, cX9_hasPlace, 2, (some .boolean))) X hcal opsS_n md_X9_hasPlace rfl (by decide) rfl wc_X9_hasPlace wl_X9_40 wi_X9 wm_X9_hasPlace wv_X9_hasPlace (by decide +kernel) (hRm 2 (by decide)) (by decide +kernel) rfl) (
    okc (ok_ifeq (off := 28) X (by decide +kernel) (by decide) rfl) (
    okc (ok_aload_n (j := 0) X (by decide +kernel) rfl rfl) (
    okc (ok_iload_n (j := 2) X (by decide +kernel) rfl rfl) (
    okc (ok_callV (ci := 9) (C := RX9) (T := TX9) (N := 8) (Y := (yX9_hasPlace, cX9_hasPlace, 2, (some .boolean))) X hcal opsS_n md_X9_hasPlace rfl (by decide) rfl wc_X9_hasPlace wl_X9_40 wi_X9 wm_X9_hasPlace wv_X9_hasPlace (by decide +kernel) (hRm 2 (by decide)) (by decide +kernel) rfl) (
    okc (ok_ifeq (off := 20) X (by decide +kernel) (by decide) rfl) (
    okc (ok_aload_n (j := 0) X (by decide +kernel) rfl rfl) (
    okc (ok_getR (ci := 9) (kf := 7) (idx := 24) (C := RX9) (T := TX9) (N := 8) X rfl (by decide) inX9 (by decide) wf_X9_24 (fun _ _ _ => rfl) (by decide +kernel) rfl) (
    okc (ok_iload_n (j := 1) X (by decide +kernel) rfl rfl) (
    okc (ok_iald X (by decide +kernel) rfl) (
    okc (ok_iload_n (j := 2) X (by decide +kernel) rfl rfl) (
    okc (ok_ishr X (by decide +kernel) rfl) (
    okc (ok_iconst (n := 1) X (by decide +kernel) rfl rfl) (
    okc (ok_iand X (by decide +kernel) rfl) (
    okc (ok_ifeq (off := 7) X (by decide +kernel) (by decide) rfl) (
    okc (ok_iconst (n := 1) X (by decide +kernel) rfl rfl) (
    okc (ok_goto (off := 4) X (by decide +kernel) (by decide)) (
    okc (ok_iconst (n := 0) X (by decide +kernel) rfl rfl) (
    okc (ok_zret hret (by decide +kernel)) (
    okn)))))))))))))))))))))
noncomputable def f_X9_joined  (a0 : Int32) (a1 : Int32) (s : SS) : Option (Int32 × SS) := ((f_X9_hasPlace a0 s).bind fun q1 => (if q1.1 = 0 then (some ((0 : Int32), q1.2)) else ((f_X9_hasPlace a1 q1.2).bind fun q2 => (if q2.1 = 0 then (some ((0 : Int32), q2.2)) else (gd (inb a0 7) (if ((q2.2.1 6 a0.toNatClampNeg) >>> (a1 &&& 31)) &&& (1 : Int32) = 0 then (some ((0 : Int32), q2.2)) else (some ((1 : Int32), q2.2))))))))
noncomputable def es_X9_joined  : List (Nat × En) := [(78, en_X9_hasPlace)]
set_option maxRecDepth 100000 in
set_option maxHeartbeats 4000000 in
theorem eq_X9_joined   (a0 : Int32) (a1 : Int32) (s : SS) : ex (tb_X9_joined (calE (es_X9_joined))) rI [] (fun _ _ _ _ => none) 23 0 [some (.ref 1), some (.int a0), some (.int a1)] [] s = f_X9_joined a0 a1 s := by
  rfl
set_option maxRecDepth 100000 in
set_option maxHeartbeats 4000000 in
theorem run_X9_joined {l : Launch} {G : Gm}   (a0 : Int32) (a1 : Int32) (s : SS) (q : (Int32 × SS)) (h : f_X9_joined a0 a1 s = some q) (D' : Nat) (hD : 1 ≤ D') : RunsM l G (D' + 1) (md 81) (embS s) [.ref 1, .int a0, .int a1] (some (.int q.1)) (embS q.2) := by
  rw [md_X9_joined]
  refine runs_Z (plainFor_of_name (by decide +kernel)) (Nat.le_of_ble_eq_true rfl) rfl ?_
  intro A p e R s0 m args below meth c Q ad0 hR X hret
  have X : Cx G A RX9 cX9_joined 3 p s0 m args c := X
  have hT := tk_X9_joined X (calE_ok (es := es_X9_joined) (enc (en_X9_hasPlace_ok _ (by omega)) (enn))) (rmD rfl hR) hret
  rw [← eq_X9_joined   a0 a1 s] at h
  refine ex_good hT (fun pc' ls' st' x' hh => ?_) 23 0 _ [] s h
  cases hh

noncomputable def en_X9_joined  : En := fun _ av s k => match av with
  | [.ref r0, .int a0, .int a1] => (gd (Nat.beq r0 1) (bI (f_X9_joined a0 a1 s) k))
  | _ => none
set_option maxRecDepth 100000 in
set_option maxHeartbeats 4000000 in
theorem en_X9_joined_ok {l : Launch} {G : Gm} (D : Nat) (hD : 2 ≤ D) : enOK l G D 81 en_X9_joined := by
  intro ρ av x k r h
  unfold en_X9_joined at h
  split at h
  · obtain ⟨g0, h⟩ := gd_some h
    obtain ⟨q, h1, h2⟩ := bind_of h
    have e0 := beq1 g0
    subst e0
    obtain ⟨D', rfl⟩ : ∃ D', D = D' + 1 := ⟨D - 1, by omega⟩
    exact ⟨_, _, h2, run_X9_joined  _ _ _ _ h1 D' (by omega)⟩
  · cases h

/-! java/util/Arrays fill -/
def tb_J7_fill_d0a16 (cal : Cal SS) : List (Nat × Ins SS) := [(0, e_iconst (0) 1), (1, e_istore 3 2), (2, e_aload 0 3), (3, e_alen opsS 4), (4, e_istore 4 6), (6, e_iload 3 7), (7, e_iload 4 9), (9, e_cge 22 12), (12, e_aload 0 13), (13, e_iload 3 14), (14, e_lload 1 15), (15, e_last opsS 16), (16, e_iinc 3 (1) 19), (19, e_goto 6), (22, e_vret)]
set_option maxRecDepth 100000 in
set_option maxHeartbeats 4000000 in
theorem tk_J7_fill_d0a16 {ad0 : Nat → Nat} {G : Gm} {A : Nat → Prop} {p : Program} {l : Launch} {e : Env} {R : Room} {s0 : State} {m : MethodId} {args : Array Value} {below : List Frame} {meth : Method} {c : Code} {Q : State → Prop} {ρ : Type} {ret : Option Value → SS → Option ρ} {r : ρ} (X : Cx G A RJ7 cJ7_fill_d0a16 5 p s0 m args c) {D' : Nat} {cal : Cal SS} (hcal : calOK l G opsS D' cal) (hRm : ∀ k, k ≤ 21 → D' + 1 ≤ R.frames ∧ 8 + (k + 11) + 40 * D' ≤ R.locals) (hret : RetK G A cJ7_fill_d0a16 113 6344 ad0 p l e R s0 m args below meth c Q opsS ret r .return_ okV) : ∀ q ∈ tb_J7_fill_d0a16 cal, OKi G A 5 113 6344 ad0 p l e R s0 m args below meth c Q opsS ret r q.1 q.2 :=
    okc (ok_iconst (n := 0) X (by decide +kernel) rfl rfl) (
    okc (ok_istore_n (j := 3) X (by decide +kernel) rfl rfl) (
    okc (ok_aload_n (j := 0) X (by decide +kernel) rfl rfl) (
    okc (ok_alen X (by decide +kernel) rfl) (
    okc (ok_istore X (by decide +kernel) rfl) (
    okc (ok_iload_n (j := 3) X (by decide +kernel) rfl rfl) (
    okc (ok_iload X (by decide +kernel) rfl) (
    okc (ok_cge (off := 13) X (by decide +kernel) (by decide) rfl) (
    okc (ok_aload_n (j := 0) X (by decide +kernel) rfl rfl) (
    okc (ok_iload_n (j := 3) X (by decide +kernel) rfl rfl) (
    okc (ok_lload_n (j := 1) X (by decide +kernel) rfl rfl) (
    okc (ok_last X opsS_ok (by decide +kernel) rfl) (
    okc (ok_iinc (n := 1) X (by decide +kernel) rfl rfl) (
    okc (ok_goto (off := -13) X (by decide +kernel) (by decide)) (
    okc (ok_vret hret (by decide +kernel)) (
    okn)))))))))))))))
noncomputable def F_J7_fill_d0a16_6 (d : Nat)  : Nat → Int64 → Int32 → Int32 → SS → Option SS
  | 0, _, _, _, _ => none
  | n + 1, x1, x3, x4, s => (if x3 < x4 then (gd (inb x3 60) (let s1 : SS := pL s d x3.toNatClampNeg x1; (let v2 : Int32 := x3 + (1 : Int32); (F_J7_fill_d0a16_6 d n x1 v2 x4 s1)))) else (some s))
noncomputable def f_J7_fill_d0a16 (d : Nat) (a0 : Int64) (s : SS) : Option SS := (F_J7_fill_d0a16_6 d fuel0 a0 (0 : Int32) (60 : Int32) s)
noncomputable def es_J7_fill_d0a16  : List (Nat × En) := []
noncomputable def ka_J7_fill_d0a16_6 (d : Nat)  (n : Nat) : Kn SS SS := fun pc ls st s => bif Nat.beq pc 6 then (match ls, st with
    | [some y0, some (.long x1), _, some (.int x3), some (.int x4)], [] => (gd (veq y0 (.ref d)) (F_J7_fill_d0a16_6 d n x1 x3 x4 s))
    | _, _ => none) else (none)
set_option maxRecDepth 100000 in
set_option maxHeartbeats 4000000 in
theorem eq_J7_fill_d0a16_6 (d : Nat)  (hd : (Nat.ble 63 d && Nat.blt d 69) = true) (n : Nat) (x1 : Int64) (x3 : Int32) (x4 : Int32) (s : SS) : ex (tb_J7_fill_d0a16 (calE (es_J7_fill_d0a16))) rV [6] (ka_J7_fill_d0a16_6 d  n) 17 6 [some (.ref d), some (.long x1), none, some (.int x3), some (.int x4)] [] s = F_J7_fill_d0a16_6 d  (n + 1) x1 x3 x4 s := by
  rcases beq6 hd with rfl | rfl | rfl | rfl | rfl | rfl <;> rfl
set_option maxRecDepth 100000 in
set_option maxHeartbeats 4000000 in
theorem gd_J7_fill_d0a16_6 {ad0 : Nat → Nat} {G : Gm} {A : Nat → Prop} {p : Program} {l : Launch} {e : Env} {R : Room} {s0 : State} {m : MethodId} {args : Array Value} {below : List Frame} {meth : Method} {c : Code} {Q : State → Prop} {r : SS} {d : Nat}  (hT : ∀ q ∈ tb_J7_fill_d0a16 (calE (es_J7_fill_d0a16)), OKi G A 5 113 6344 ad0 p l e R s0 m args below meth c Q opsS rV r q.1 q.2)  (hd : (Nat.ble 63 d && Nat.blt d 69) = true) : ∀ (n : Nat) (x1 : Int64) (x3 : Int32) (x4 : Int32) (s : SS), F_J7_fill_d0a16_6 d  n x1 x3 x4 s = some r → Gd G A 5 113 6344 ad0 p l e R s0 m args below meth c Q opsS 6 [some (.ref d), some (.long x1), none, some (.int x3), some (.int x4)] [] s := by
  intro n
  induction n with
  | zero =>
    intro x1 x3 x4 s hh
    exact absurd (show (none : Option SS) = some r from hh) (by simp)
  | succ n ih =>
    intro x1 x3 x4 s hh
    rw [← eq_J7_fill_d0a16_6 d  hd n x1 x3 x4 s] at hh
    refine ex_good hT (fun pc' ls' st' x' hh => ?_) 17 6 _ [] s hh
    unfold ka_J7_fill_d0a16_6 at hh
    cases hb : Nat.beq pc' 6 with
    | true =>
      rw [hb] at hh
      have e9 := beq1 hb
      subst e9
      simp only [cond_true] at hh
      split at hh
      · obtain ⟨g0, hh1⟩ := gd_some hh
        have e0 := veq_of g0
        subst e0
        exact Gd.wk (ih _ _ _ _ hh1) (Lle.eq (Lle.eq (Lle.no (Lle.eq (Lle.eq Lle.nil)))))
      · cases hh
    | false =>
      rw [hb] at hh
      simp only [cond_false] at hh
      cases hh

noncomputable def ka_J7_fill_d0a16 (d : Nat) : Kn SS SS := fun pc ls st s => bif Nat.beq pc 6 then (match ls, st with
    | [some y0, some (.long x1), _, some (.int x3), some (.int x4)], [] => (gd (veq y0 (.ref d)) (F_J7_fill_d0a16_6 d fuel0 x1 x3 x4 s))
    | _, _ => none) else (none)
set_option maxRecDepth 100000 in
set_option maxHeartbeats 4000000 in
theorem eq_J7_fill_d0a16 (d : Nat) (hd : (Nat.ble 63 d && Nat.blt d 69) = true) (a0 : Int64) (s : SS) : ex (tb_J7_fill_d0a16 (calE (es_J7_fill_d0a16))) rV [6] (ka_J7_fill_d0a16 d) 17 0 [some (.ref d), some (.long a0), none, none, none] [] s = f_J7_fill_d0a16 d a0 s := by
  rcases beq6 hd with rfl | rfl | rfl | rfl | rfl | rfl <;> rfl
set_option maxRecDepth 100000 in
set_option maxHeartbeats 4000000 in
theorem run_J7_fill_d0a16 {l : Launch} {G : Gm} {d : Nat} (hd : (Nat.ble 63 d && Nat.blt d 69) = true) (a0 : Int64) (s : SS) (q : SS) (h : f_J7_fill_d0a16 d a0 s = some q) (D' : Nat) (hD : 0 ≤ D') : RunsM l G (D' + 1) (md 265) (embS s) [.ref d, .long a0] none (embS q) := by
  rw [md_J7_fill_d0a16]
  refine runs_V (by decide +kernel) (Nat.le_of_ble_eq_true rfl) rfl ?_
  intro A p e R s0 m args below meth c Q ad0 hR X hret
  have X : Cx G A RJ7 cJ7_fill_d0a16 5 p s0 m args c := X
  have hT := tk_J7_fill_d0a16 X (calE_ok (es := es_J7_fill_d0a16) (enn)) (rmD rfl hR) hret
  rw [← eq_J7_fill_d0a16 d hd a0 s] at h
  refine ex_good hT (fun pc' ls' st' x' hh => ?_) 17 0 _ [] s h
  unfold ka_J7_fill_d0a16 at hh
  cases hb : Nat.beq pc' 6 with
  | true =>
    rw [hb] at hh
    have e9 := beq1 hb
    subst e9
    simp only [cond_true] at hh
    split at hh
    · obtain ⟨g0, hh1⟩ := gd_some hh
      have e0 := veq_of g0
      subst e0
      exact Gd.wk (gd_J7_fill_d0a16_6 hT hd _ _ _ _ _ hh1) (Lle.eq (Lle.eq (Lle.no (Lle.eq (Lle.eq Lle.nil)))))
    · cases hh
  | false =>
    rw [hb] at hh
    simp only [cond_false] at hh
    cases hh

noncomputable def en_J7_fill_d0a16  : En := fun _ av s k => match av with
  | [.ref d, .long a0] => (gd (Nat.ble 63 d && Nat.blt d 69) (bV (f_J7_fill_d0a16 d a0 s) k))
  | _ => none
set_option maxRecDepth 100000 in
set_option maxHeartbeats 4000000 in
theorem en_J7_fill_d0a16_ok {l : Launch} {G : Gm} (D : Nat) (hD : 1 ≤ D) : enOK l G D 265 en_J7_fill_d0a16 := by
  intro ρ av x k r h
  unfold en_J7_fill_d0a16 at h
  split at h
  · obtain ⟨g0, h⟩ := gd_some h
    obtain ⟨q, h1, h2⟩ := bind_of h
    obtain ⟨D', rfl⟩ : ∃ D', D = D' + 1 := ⟨D - 1, by omega⟩
    exact ⟨_, _, h2, run_J7_fill_d0a16 g0 _ _ _ h1 D' (by omega)⟩
  · cases h

/-! HatRank$Town rank -/
def tb_X9_rank (cal : Cal SS) : List (Nat × Ins SS) := [(0, e_iconst (0) 1), (1, e_istore 3 2), (2, e_iconst (0) 3), (3, e_istore 4 5), (5, e_iload 4 7), (7, e_aload 0 8), (8, e_getI opsS 9 0 11), (11, e_cge 61 14), (14, e_aload 1 15), (15, e_getR opsS 2 0 18), (18, e_iload 4 20), (20, e_ald opsS 100 21), (21, e_aload 1 22), (22, e_getR opsS 2 0 25), (25, e_iload 2 26), (26, e_ald opsS 100 27), (27, e_cgt 52 30), (30, e_aload 1 31), (31, e_getR opsS 2 0 34), (34, e_iload 4 36), (36, e_ald opsS 100 37), (37, e_aload 1 38), (38, e_getR opsS 2 0 41), (41, e_iload 2 42), (42, e_ald opsS 100 43), (43, e_cne 55 46), (46, e_iload 4 48), (48, e_iload 2 49), (49, e_cge 55 52), (52, e_iinc 3 (1) 55), (55, e_iinc 4 (1) 58), (58, e_goto 5), (61, e_iload 3 62), (62, e_iret)]
set_option maxRecDepth 100000 in
set_option maxHeartbeats 4000000 in
theorem tk_X9_rank {ad0 : Nat → Nat} {G : Gm} {A : Nat → Prop} {p : Program} {l : Launch} {e : Env} {R : Room} {s0 : State} {m : MethodId} {args : Array Value} {below : List Frame} {meth : Method} {c : Code} {Q : State → Prop} {ρ : Type} {ret : Option Value → SS → Option ρ} {r : ρ} (X : Cx G A RX9 cX9_rank 5 p s0 m args c) {D' : Nat} {cal : Cal SS} (hcal : calOK l G opsS D' cal) (hRm : ∀ k, k ≤ 21 → D' + 1 ≤ R.frames ∧ 8 + (k + 11) + 40 * D' ≤ R.locals) (hret : RetK G A cX9_rank 113 6344 ad0 p l e R s0 m args below meth c Q opsS ret r .ireturn okI) : ∀ q ∈ tb_X9_rank cal, OKi G A 5 113 6344 ad0 p l e R s0 m args below meth c Q opsS ret r q.1 q.2 :=
    okc (ok_iconst (n := 0) X (by decide +kernel) rfl rfl) (
    okc (ok_istore_n (j := 3) X (by decide +kernel) rfl rfl) (
    okc (ok_iconst (n := 0) X (by decide +kernel) rfl rfl) (
    okc (ok_istore X (by decide +kernel) rfl) (
    okc (ok_iload X (by decide +kernel) rfl) (
    okc (ok_aload_n (j := 0) X (by decide +kernel) rfl rfl) (
    okc (ok_getI (ci := 9) (kf := 0) (idx := 33) (C := RX9) (T := TX9) (N := 8) X rfl (by decide) inX9 (by decide) wf_X9_33 (fun _ _ _ => rfl) (by decide +kernel) rfl) (
    okc (ok_cge (off := 50) X (by decide +kernel) (by decide) rfl) (
    okc (ok_aload_n (j := 1) X (by decide +kernel) rfl rfl) (
    okc (ok_getR (ci := 2) (kf := 0) (idx := 57) (C := RX2) (T := TX2) (N := 4) X rfl (by decide) inX2 (by decide) wf_X9_57 (fun _ _ _ => rfl) (by decide +kernel) rfl) (
    okc (ok_iload X (by decide +kernel) rfl) (
    okc (ok_iald X (by decide +kernel) rfl) (
    okc (ok_aload_n (j := 1) X (by decide +kernel) rfl rfl) (
    okc (ok_getR (ci := 2) (kf := 0) (idx := 57) (C := RX2) (T := TX2) (N := 4) X rfl (by decide) inX2 (by decide) wf_X9_57 (fun _ _ _ => rfl) (by decide +kernel) rfl) (
    okc (ok_iload_n (j := 2) X (by decide +kernel) rfl rfl) (
    okc (ok_iald X (by decide +kernel) rfl) (
    okc (ok_cgt (off := 25) X (by decide +kernel) (by decide) rfl) (
    okc (ok_aload_n (j := 1) X (by decide +kernel) rfl rfl) (
    okc (ok_getR (ci := 2) (kf := 0) (idx := 57) (C := RX2) (T := TX2) (N := 4) X rfl (by decide) inX2 (by decide) wf_X9_57 (fun _ _ _ => rfl) (by decide +kernel) rfl) (
    okc (ok_iload X (by decide +kernel) rfl) (
    okc (ok_iald X (by decide +kernel) rfl) (
    okc (ok_aload_n (j := 1) X (by decide +kernel) rfl rfl) (
    okc (ok_getR (ci := 2) (kf := 0) (idx := 57) (C := RX2) (T := TX2) (N := 4) X rfl (by decide) inX2 (by decide) wf_X9_57 (fun _ _ _ => rfl) (by decide +kernel) rfl) (
    okc (ok_iload_n (j := 2) X (by decide +kernel) rfl rfl) (
    okc (ok_iald X (by decide +kernel) rfl) (
    okc (ok_cne (off := 12) X (by decide +kernel) (by decide) rfl) (
    okc (ok_iload X (by decide +kernel) rfl) (
    okc (ok_iload_n (j := 2) X (by decide +kernel) rfl rfl) (
    okc (ok_cge (off := 6) X (by decide +kernel) (by decide) rfl) (
    okc (ok_iinc (n := 1) X (by decide +kernel) rfl rfl) (
    okc (ok_iinc (n := 1) X (by decide +kernel) rfl rfl) (
    okc (ok_goto (off := -53) X (by decide +kernel) (by decide)) (
    okc (ok_iload_n (j := 3) X (by decide +kernel) rfl rfl) (
    okc (ok_iret hret (by decide +kernel)) (
    okn))))))))))))))))))))))))))))))))))
noncomputable def F_X9_rank_5 (d : Nat)  : Nat → Int32 → Int32 → Int32 → SS → Option (Int32 × SS)
  | 0, _, _, _, _ => none
  | n + 1, x2, x3, x4, s => (if x4 < (s.1 1 0) then (gd (inb x4 6) (gd (inb x2 6) (if (s.1 (d + 1) x2.toNatClampNeg) < (s.1 (d + 1) x4.toNatClampNeg) then (let v1 : Int32 := x3 + (1 : Int32); (let v2 : Int32 := x4 + (1 : Int32); (F_X9_rank_5 d n x2 v1 v2 s))) else (gd (inb x4 6) (gd (inb x2 6) (if (s.1 (d + 1) x4.toNatClampNeg) = (s.1 (d + 1) x2.toNatClampNeg) then (if x4 < x2 then (let v3 : Int32 := x3 + (1 : Int32); (let v4 : Int32 := x4 + (1 : Int32); (F_X9_rank_5 d n x2 v3 v4 s))) else (let v5 : Int32 := x4 + (1 : Int32); (F_X9_rank_5 d n x2 x3 v5 s))) else (let v6 : Int32 := x4 + (1 : Int32); (F_X9_rank_5 d n x2 x3 v6 s)))))))) else (some (x3, s)))
noncomputable def f_X9_rank (d : Nat) (a0 : Int32) (s : SS) : Option (Int32 × SS) := (F_X9_rank_5 d fuel0 a0 (0 : Int32) (0 : Int32) s)
noncomputable def es_X9_rank  : List (Nat × En) := []
noncomputable def ka_X9_rank_5 (d : Nat)  (n : Nat) : Kn SS (Int32 × SS) := fun pc ls st s => bif Nat.beq pc 5 then (match ls, st with
    | [some y0, some y1, some (.int x2), some (.int x3), some (.int x4)], [] => (gd (veq y0 (.ref 1)) (gd (veq y1 (.ref d)) (F_X9_rank_5 d n x2 x3 x4 s)))
    | _, _ => none) else (none)
set_option maxRecDepth 100000 in
set_option maxHeartbeats 4000000 in
theorem eq_X9_rank_5 (d : Nat)  (hd : (Nat.beq d 7) = true) (n : Nat) (x2 : Int32) (x3 : Int32) (x4 : Int32) (s : SS) : ex (tb_X9_rank (calE (es_X9_rank))) rI [5] (ka_X9_rank_5 d  n) 36 5 [some (.ref 1), some (.ref d), some (.int x2), some (.int x3), some (.int x4)] [] s = F_X9_rank_5 d  (n + 1) x2 x3 x4 s := by
  rcases beq1 hd with rfl <;> rfl
set_option maxRecDepth 100000 in
set_option maxHeartbeats 4000000 in
theorem gd_X9_rank_5 {ad0 : Nat → Nat} {G : Gm} {A : Nat → Prop} {p : Program} {l : Launch} {e : Env} {R : Room} {s0 : State} {m : MethodId} {args : Array Value} {below : List Frame} {meth : Method} {c : Code} {Q : State → Prop} {r : (Int32 × SS)} {d : Nat}  (hT : ∀ q ∈ tb_X9_rank (calE (es_X9_rank)), OKi G A 5 113 6344 ad0 p l e R s0 m args below meth c Q opsS rI r q.1 q.2)  (hd : (Nat.beq d 7) = true) : ∀ (n : Nat) (x2 : Int32) (x3 : Int32) (x4 : Int32) (s : SS), F_X9_rank_5 d  n x2 x3 x4 s = some r → Gd G A 5 113 6344 ad0 p l e R s0 m args below meth c Q opsS 5 [some (.ref 1), some (.ref d), some (.int x2), some (.int x3), some (.int x4)] [] s := by
  intro n
  induction n with
  | zero =>
    intro x2 x3 x4 s hh
    exact absurd (show (none : Option (Int32 × SS)) = some r from hh) (by simp)
  | succ n ih =>
    intro x2 x3 x4 s hh
    rw [← eq_X9_rank_5 d  hd n x2 x3 x4 s] at hh
    refine ex_good hT (fun pc' ls' st' x' hh => ?_) 36 5 _ [] s hh
    unfold ka_X9_rank_5 at hh
    cases hb : Nat.beq pc' 5 with
    | true =>
      rw [hb] at hh
      have e9 := beq1 hb
      subst e9
      simp only [cond_true] at hh
      split at hh
      · obtain ⟨g0, hh1⟩ := gd_some hh
        have e0 := veq_of g0
        subst e0
        obtain ⟨g1, hh2⟩ := gd_some hh1
        have e1 := veq_of g1
        subst e1
        exact Gd.wk (ih _ _ _ _ hh2) (Lle.eq (Lle.eq (Lle.eq (Lle.eq (Lle.eq Lle.nil)))))
      · cases hh
    | false =>
      rw [hb] at hh
      simp only [cond_false] at hh
      cases hh

noncomputable def ka_X9_rank (d : Nat) : Kn SS (Int32 × SS) := fun pc ls st s => bif Nat.beq pc 5 then (match ls, st with
    | [some y0, some y1, some (.int x2), some (.int x3), some (.int x4)], [] => (gd (veq y0 (.ref 1)) (gd (veq y1 (.ref d)) (F_X9_rank_5 d fuel0 x2 x3 x4 s)))
    | _, _ => none) else (none)
set_option maxRecDepth 100000 in
set_option maxHeartbeats 4000000 in
theorem eq_X9_rank (d : Nat) (hd : (Nat.beq d 7) = true) (a0 : Int32) (s : SS) : ex (tb_X9_rank (calE (es_X9_rank))) rI [5] (ka_X9_rank d) 36 0 [some (.ref 1), some (.ref d), some (.int a0), none, none] [] s = f_X9_rank d a0 s := by
  rcases beq1 hd with rfl <;> rfl
set_option maxRecDepth 100000 in
set_option maxHeartbeats 4000000 in
theorem run_X9_rank {l : Launch} {G : Gm} {d : Nat} (hd : (Nat.beq d 7) = true) (a0 : Int32) (s : SS) (q : (Int32 × SS)) (h : f_X9_rank d a0 s = some q) (D' : Nat) (hD : 0 ≤ D') : RunsM l G (D' + 1) (md 86) (embS s) [.ref 1, .ref d, .int a0] (some (.int q.1)) (embS q.2) := by
  rw [md_X9_rank]
  refine runs_I (plainFor_of_name (by decide +kernel)) (Nat.le_of_ble_eq_true rfl) rfl ?_
  intro A p e R s0 m args below meth c Q ad0 hR X hret
  have X : Cx G A RX9 cX9_rank 5 p s0 m args c := X
  have hT := tk_X9_rank X (calE_ok (es := es_X9_rank) (enn)) (rmD rfl hR) hret
  rw [← eq_X9_rank d hd a0 s] at h
  refine ex_good hT (fun pc' ls' st' x' hh => ?_) 36 0 _ [] s h
  unfold ka_X9_rank at hh
  cases hb : Nat.beq pc' 5 with
  | true =>
    rw [hb] at hh
    have e9 := beq1 hb
    subst e9
    simp only [cond_true] at hh
    split at hh
    · obtain ⟨g0, hh1⟩ := gd_some hh
      have e0 := veq_of g0
      subst e0
      obtain ⟨g1, hh2⟩ := gd_some hh1
      have e1 := veq_of g1
      subst e1
      exact Gd.wk (gd_X9_rank_5 hT hd _ _ _ _ _ hh2) (Lle.eq (Lle.eq (Lle.eq (Lle.eq (Lle.eq Lle.nil)))))
    · cases hh
  | false =>
    rw [hb] at hh
    simp only [cond_false] at hh
    cases hh

noncomputable def en_X9_rank  : En := fun _ av s k => match av with
  | [.ref r0, .ref d, .int a0] => (gd (Nat.beq r0 1) (gd (Nat.beq d 7) (bI (f_X9_rank d a0 s) k)))
  | _ => none
set_option maxRecDepth 100000 in
set_option maxHeartbeats 4000000 in
theorem en_X9_rank_ok {l : Launch} {G : Gm} (D : Nat) (hD : 1 ≤ D) : enOK l G D 86 en_X9_rank := by
  intro ρ av x k r h
  unfold en_X9_rank at h
  split at h
  · obtain ⟨g0, h⟩ := gd_some h
    obtain ⟨g1, h⟩ := gd_some h
    obtain ⟨q, h1, h2⟩ := bind_of h
    have e0 := beq1 g0
    subst e0
    obtain ⟨D', rfl⟩ : ∃ D', D = D' + 1 := ⟨D - 1, by omega⟩
    exact ⟨_, _, h2, run_X9_rank g1 _ _ _ h1 D' (by omega)⟩
  · cases h

