/-! the law's entry, pcs 0 to 17: both objects are made -/
def tb_E (cal : Cal AH) : List (Nat × Ins AH) := [(0, e_new (opsC 113 6344) 11 15 3), (3, e_dup 4), (4, e_callI (opsC 113 6344) 113 6344 cal 99 0 11 7), (7, e_astore 1 8), (8, e_new (opsC 113 6344) 12 63 11), (11, e_dup 12), (12, e_callI (opsC 113 6344) 113 6344 cal 148 0 12 15), (15, e_astore 2 16), (16, e_iconst (0) 17), (17, e_istore 3 18)]
set_option maxRecDepth 100000 in
set_option maxHeartbeats 4000000 in
theorem tk_E {ad0 : Nat → Nat} {G : Gm} {A : Nat → Prop} {p : Program} {l : Launch} {e : Env} {R : Room} {s0 : State} {m : MethodId} {args : Array Value} {below : List Frame} {meth : Method} {c : Code} {Q : State → Prop} {n0 sl0 : Nat} {ρ : Type} {ret : Option Value → AH → Option ρ} {r : ρ} (X : Cx G A RL cL_law 4 p s0 m args c) {D' : Nat} {cal : Cal AH} (hcal : calOK l G (opsC 113 6344) D' cal) (hRm : ∀ k, k ≤ 21 → D' + 1 ≤ R.frames ∧ 8 + (k + 11) + 40 * D' ≤ R.locals) (hNf : 113 ≤ n0 + R.cells) (hSf : 6344 ≤ sl0 + R.slots) : ∀ q ∈ tb_E cal, OKi G A 4 n0 sl0 ad0 p l e R s0 m args below meth c Q (opsC 113 6344) ret r q.1 q.2 :=
    okc (ok_new (C := RX11) (T := TX11) (N := 15) (ci := 11) (idx := 7) X (opsC_ok 113 6344) hNf hSf rfl (by decide) inX11 tyX11_ok (by decide +kernel) wq_L_7 wt_X11 wi_X11 (by decide +kernel) rfl) (
    okc (ok_dup X (by decide +kernel) rfl) (
    okc (ok_callI (Y := (yX11_init, cX11_init, 1, none)) X hcal hNf hSf md_X11_init rfl rfl wc_X11_init wl_L_9 wi_X11 wm_X11_init (by decide +kernel) (hRm 1 (by decide)) (by decide +kernel) rfl) (
    okc (ok_astore_n (j := 1) X (by decide +kernel) rfl rfl) (
    okc (ok_new (C := RX12) (T := TX12) (N := 63) (ci := 12) (idx := 10) X (opsC_ok 113 6344) hNf hSf rfl (by decide) inX12 tyX12_ok (by decide +kernel) wq_L_10 wt_X12 wi_X12 (by decide +kernel) rfl) (
    okc (ok_dup X (by decide +kernel) rfl) (
    okc (ok_callI (Y := (yX12_init, cX12_init, 1, none)) X hcal hNf hSf md_X12_init rfl rfl wc_X12_init wl_L_12 wi_X12 wm_X12_init (by decide +kernel) (hRm 1 (by decide)) (by decide +kernel) rfl) (
    okc (ok_astore_n (j := 2) X (by decide +kernel) rfl rfl) (
    okc (ok_iconst (n := 0) X (by decide +kernel) rfl rfl) (
    okc (ok_istore_n (j := 3) X (by decide +kernel) rfl rfl) (
    okn))))))))))
def ka_E : Kn AH AH := fun pc ls st x => bif Nat.beq pc 18 then (match ls, st with
    | [some y0, some y1, some y2, some (.int x3)], [] => gd (veq y0 (.ref 204)) (gd (veq y1 (.ref 0)) (gd (veq y2 (.ref 74)) (gd (x3 == 0) (some x))))
    | _, _ => none) else none
def oE : Option AH := ex (tb_E (calC [(99, FC_X11_init), (148, FC_X12_init)])) (fun _ _ => none) [18] ka_E 20 0 (ent [.ref 204] 4) [] hZ
def hE : AH := oE.getD hZ
set_option maxRecDepth 100000 in
theorem oE_some : oE = some hE := opt_get (by decide +kernel)
set_option maxRecDepth 100000 in
theorem hE_n : hE.n = 113 ∧ hE.sl = 6344 := by decide +kernel
set_option maxRecDepth 100000 in
theorem hE_sh : (List.range 113).all (fun a => hE.sh a == SHf a) = true := by decide +kernel
set_option maxRecDepth 100000 in
theorem hE_R : (List.range 113).all (fun a => bif nlt (SHf a).1 100 || Nat.ble 104 (SHf a).1 then (List.range (SHf a).2).all (fun k => hE.R a k == RF 13 20 a k) else true) = true := by decide +kernel
set_option maxRecDepth 100000 in
theorem hE_I : (List.range 113).all (fun a => (List.range (SHf a).2).all (fun k => hE.I a k == I0 a k)) = true := by decide +kernel
set_option maxRecDepth 100000 in
theorem hE_L : (List.range 113).all (fun a => (List.range (SHf a).2).all (fun k => hE.L a k == 0)) = true := by decide +kernel
/-- the state at which the law's loop begins -/
def sE : SS := (I0, fun _ _ => 0, 13, 20)
theorem all_range {n : Nat} {f : Nat → Bool} (h : (List.range n).all f = true) {a : Nat} (ha : a < n) : f a = true := List.all_eq_true.mp h a (List.mem_range.mpr ha)
theorem hE_at {a : Nat} (ha : a < 113) : hE.sh a = SHf a := eq_of_beq (all_range hE_sh ha)
theorem hE_Ik {a k : Nat} (ha : a < 113) (hk : k < (SHf a).2) : hE.I a k = I0 a k := eq_of_beq (all_range (all_range hE_I ha) hk)
theorem hE_Lk {a k : Nat} (ha : a < 113) (hk : k < (SHf a).2) : hE.L a k = 0 := eq_of_beq (all_range (all_range hE_L ha) hk)
theorem hE_Rk {a k : Nat} (ha : a < 113) (hk : k < (SHf a).2) (hc : (SHf a).1 < 100 ∨ 104 ≤ (SHf a).1) : hE.R a k = RF 13 20 a k := by
  have h := all_range hE_R ha
  have e1 : (nlt (SHf a).1 100 || Nat.ble 104 (SHf a).1) = true := by
    rcases hc with h | h
    · rw [nlt_t h]; rfl
    · rw [Nat.ble_eq_true_of_le h, Bool.or_true]
  simp only [e1, cond_true] at h
  exact eq_of_beq (all_range h hk)
theorem arrV_congr (cI : ClassId) {N : Nat} {f g : Nat → Value} (h : ∀ j, j < N → f j = g j) : arrV cI N f = arrV cI N g := by
  unfold arrV
  congr 2
  funext j
  exact h j.val j.isLt
theorem fV_E (ad : Nat → Nat) {a k : Nat} (ha : a < 113) (hk : k < (SHf a).2) (hc : (SHf a).1 < 100) (ty : FieldType) : fV ad hE a ty k = fV ad (embS sE) a ty k := by
  have h1 := hE_Ik ha hk
  have h2 := hE_Lk ha hk
  have h3 := hE_Rk ha hk (Or.inl hc)
  have g1 : (embS sE).I a k = I0 a k := rfl
  have g2 : (embS sE).L a k = 0 := rfl
  have g3 : (embS sE).R a k = RF 13 20 a k := rfl
  unfold fV
  rw [h1, h2, h3, g1, g2, g3]
theorem at_E {G : Gm} {ad : Nat → Nat} {H : Heap} {a : Nat} (ha : a < 113) (h : va_at G.D vwCl (ad a, cE G ad hE a) H) : va_at G.D vwCl (ad a, cE G ad (embS sE) a) H := by
  have e0 : hE.sh a = SHf a := hE_at ha
  have e1 : (embS sE).sh a = SHf a := rfl
  unfold cE at h ⊢
  rw [e0] at h
  rw [e1]
  by_cases hc : (SHf a).1 < 100
  · rw [if_pos hc] at h ⊢
    have : fsO ad hE a = fsO ad (embS sE) a := by
      unfold fsO
      rw [e0, e1]
      exact List.map_congr_left (fun k hk => fV_E ad ha (List.mem_range.mp hk) hc _)
    rw [← this]
    exact h
  · rw [if_neg hc] at h ⊢
    unfold va_at at h ⊢
    simp only at h ⊢
    rw [h]
    congr 1
    by_cases c1 : (SHf a).1 = 101
    · rw [if_pos c1, if_pos c1]
      exact arrV_congr _ (fun j hj => congrArg Value.long (hE_Lk ha hj))
    · rw [if_neg c1, if_neg c1]
      by_cases c2 : 104 ≤ (SHf a).1
      · rw [if_pos c2, if_pos c2]
        exact arrV_congr _ (fun j hj => congrArg (fun q => va_rf (Option.map ad q)) (hE_Rk ha hj (Or.inr c2)))
      · rw [if_neg c2, if_neg c2]
        exact arrV_congr _ (fun j hj => congrArg Value.int (hE_Ik ha hj))
theorem embS_clo (s : SS) (h1 : s.2.2.1 < 113) (h2 : s.2.2.2 < 113) : clo (embS s) := by
  sorry
theorem Rl_E {G : Gm} {A : Nat → Prop} {s : State} {n0 sl0 : Nat} {ad0 ad : Nat → Nat} {H : Heap} {locs : List Loc} {cells slots : Nat} (h : Rl G A s n0 sl0 ad0 ad hE H locs cells slots) : Rl G A s n0 sl0 ad0 ad (embS sE) H locs cells slots := by
  obtain ⟨a1, a2, a3, a4, a5, a6, a7, a8⟩ := h
  rw [hE_n.1] at a6 a8
  rw [hE_n.2] at a7
  refine ⟨vaP_of (fun i hi => at_E hi ?_), vaD_of (fun i j hi hj hij => ?_) (fun i hi => ?_), a3, embS_clo sE (show 13 < 113 by decide) (show 20 < 113 by decide), a5, a6, a7, a8⟩
  · exact a1 i _ (wsA_get (by rw [hE_n.1]; exact hi))
  · exact a2.1 i j _ _ (wsA_get (by rw [hE_n.1]; exact hi)) (wsA_get (by rw [hE_n.1]; exact hj)) hij
  · exact a2.2 i _ (wsA_get (by rw [hE_n.1]; exact hi))
