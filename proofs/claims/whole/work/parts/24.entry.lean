/-! the law's entry, pcs 0 to 17: both objects are made -/
def tb_E (cal : Cal AH) : List (Nat × Ins AH) := [(0, e_new (opsC 113 6344) 11 15 3), (3, e_dup 4), (4, e_callI (opsC 113 6344) 113 6344 cal 99 0 11 7), (7, e_astore 1 8), (8, e_new (opsC 113 6344) 12 63 11), (11, e_dup 12), (12, e_callI (opsC 113 6344) 113 6344 cal 148 0 12 15), (15, e_astore 2 16), (16, e_iconst (0) 17), (17, e_istore 3 18)]
set_option maxRecDepth 100000 in
set_option maxHeartbeats 4000000 in
theorem tk_E {ad0 : Nat → Nat} {G : Gm} {A : Nat → Prop} {p : Program} {l : Launch} {e : Env} {R : Room} {s0 : State} {m : MethodId} {args : Array Value} {below : List Frame} {meth : Method} {c : Code} {Q : State → Prop} {n0 sl0 : Nat} {ρ : Type} {ret : Option Value → AH → Option ρ} {r : ρ} (X : Cx G A RL cL_law 4 p s0 m args c) {D' : Nat} {cal : Cal AH} (hcal : calOK l G (opsC 113 6344) D' cal) (hRm : ∀ k, k ≤ 21 → D' + 1 ≤ R.frames ∧ 8 + (k + 11) + 40 * D' ≤ R.locals) (hNf : 113 ≤ n0 + R.cells) (hSf : 6344 ≤ sl0 + R.slots) : ∀ q ∈ tb_E cal, OKi G A 4 n0 sl0 ad0 p l e R s0 m args below meth c Q (opsC 113 6344) ret r q.1 q.2 :=
    okc (ok_new (C := RX11) (T := TX11) (N := 15) (ci := 11) (idx := 7) X (opsC_ok 113 6344) hNf hSf rfl (by decide) inX11 tyX11_ok (by decide +kernel) wq_L_7 wt_X11 wi_X11 (by decide +kernel) rfl) (
    okc (ok_dup X (by decide +kernel) rfl) (
    okc (ok_callI (Y := (yX11_init, cX11_init, 1, none)) X hcal hNf hSf md_X11_init rfl rfl wc_X11_init wl_L_9 wi_X11 wm_X11_init (by decide +kernel) (hRm 1 (by decide)) (by decide +kernel) rfl) (
    okc (ok_astore_n (j := 1) X (by decide +kernel) rfl rfl) (
    okc (ok_new (C := RX12) (T := TX12) (N := 63) (ci := 12) (idx := 10) X (opsC_ok 113 6344) hNf hSf rfl (by decide) inX12 tyX12_ok (by decide +kernel) wq_L_10 wt_X12 wi_X12 (by decide +kernel) rfl) (
    okc (ok_dup X (by decide +kernel) rfl) (
    okc (ok_callI (Y := (yX12_init, cX12_init, 1, none)) X hcal hNf hSf md_X12_init rfl rfl wc_X12_init wl_L_12 wi_X12 wm_X12_init (by decide +kernel) (hRm 1 (by decide)) (by decide +kernel) rfl) (
    okc (ok_astore_n (j := 2) X (by decide +kernel) rfl rfl) (
    okc (ok_iconst (n := 0) X (by decide +kernel) rfl rfl) (
    okc (ok_istore_n (j := 3) X (by decide +kernel) rfl rfl) (
    okn))))))))))
def ka_E : Kn AH AH := fun pc ls st x => bif Nat.beq pc 18 then (match ls, st with
    | [some y0, some y1, some y2, some (.int x3)], [] => gd (veq y0 (.ref 204)) (gd (veq y1 (.ref 0)) (gd (veq y2 (.ref 74)) (gd (x3 == 0) (some x))))
    | _, _ => none) else none
def oE : Option AH := ex (tb_E (calC [(99, FC_X11_init), (148, FC_X12_init)])) (fun _ _ => none) [18] ka_E 20 0 (ent [.ref 204] 4) [] hZ
def hE : AH := oE.getD hZ
set_option maxRecDepth 100000 in
theorem oE_some : oE = some hE := opt_get (by decide +kernel)
set_option maxRecDepth 100000 in
theorem hE_n : hE.n = 113 ∧ hE.sl = 6344 := by decide +kernel
set_option maxRecDepth 100000 in
theorem hE_sh : (List.range 113).all (fun a => hE.sh a == SHf a) = true := by decide +kernel
set_option maxRecDepth 100000 in
theorem hE_R : (List.range 113).all (fun a => bif nlt (SHf a).1 100 || Nat.ble 104 (SHf a).1 then (List.range (SHf a).2).all (fun k => hE.R a k == RF 13 20 a k) else true) = true := by decide +kernel
set_option maxRecDepth 100000 in
theorem hE_I : (List.range 113).all (fun a => (List.range (SHf a).2).all (fun k => hE.I a k == I0 a k)) = true := by decide +kernel
set_option maxRecDepth 100000 in
theorem hE_L : (List.range 113).all (fun a => (List.range (SHf a).2).all (fun k => hE.L a k == 0)) = true := by decide +kernel
/-- the state at which the law's loop begins -/
def sE : SS := (I0, fun _ _ => 0, 13, 20)
theorem all_range {n : Nat} {f : Nat → Bool} (h : (List.range n).all f = true) {a : Nat} (ha : a < n) : f a = true := List.all_eq_true.mp h a (List.mem_range.mpr ha)
theorem hE_at {a : Nat} (ha : a < 113) : hE.sh a = SHf a := eq_of_beq (all_range hE_sh ha)
theorem hE_Ik {a k : Nat} (ha : a < 113) (hk : k < (SHf a).2) : hE.I a k = I0 a k := eq_of_beq (all_range (all_range hE_I ha) hk)
theorem hE_Lk {a k : Nat} (ha : a < 113) (hk : k < (SHf a).2) : hE.L a k = 0 := eq_of_beq (all_range (all_range hE_L ha) hk)
theorem hE_Rk {a k : Nat} (ha : a < 113) (hk : k < (SHf a).2) (hc : (SHf a).1 < 100 ∨ 104 ≤ (SHf a).1) : hE.R a k = RF 13 20 a k := by
  have h := all_range hE_R ha
  have e1 : (nlt (SHf a).1 100 || Nat.ble 104 (SHf a).1) = true := by
    rcases hc with h | h
    · rw [nlt_t h]; rfl
    · rw [Nat.ble_eq_true_of_le h, Bool.or_true]
  simp only [e1, cond_true] at h
  exact eq_of_beq (all_range h hk)
theorem arrV_congr (cI : ClassId) {N : Nat} {f g : Nat → Value} (h : ∀ j, j < N → f j = g j) : arrV cI N f = arrV cI N g := by
  unfold arrV
  congr 2
  funext j
  exact h j.val j.isLt
theorem fV_E {h : AH} (ad : Nat → Nat) {a k : Nat} (h1 : h.I a k = I0 a k) (h2 : h.L a k = 0) (h3 : h.R a k = RF 13 20 a k) (ty : FieldType) : fV ad h a ty k = fV ad (embS sE) a ty k := by
  have g1 : (embS sE).I a k = I0 a k := rfl
  have g2 : (embS sE).L a k = 0 := rfl
  have g3 : (embS sE).R a k = RF 13 20 a k := rfl
  unfold fV
  rw [h1, h2, h3, g1, g2, g3]
theorem at_E {G : Gm} {ad : Nat → Nat} {H : Heap} {h : AH} {a : Nat} (e0 : h.sh a = SHf a) (hI : ∀ k, k < (SHf a).2 → h.I a k = I0 a k) (hL : ∀ k, k < (SHf a).2 → h.L a k = 0) (hR : ∀ k, k < (SHf a).2 → ((SHf a).1 < 100 ∨ 104 ≤ (SHf a).1) → h.R a k = RF 13 20 a k) (hh : va_at G.D vwCl (ad a, cE G ad h a) H) : va_at G.D vwCl (ad a, cE G ad (embS sE) a) H := by
  have e1 : (embS sE).sh a = SHf a := rfl
  unfold cE at hh ⊢
  rw [e0] at hh
  rw [e1]
  generalize hq : SHf a = q at *
  by_cases hc : q.1 < 100
  · rw [if_pos hc] at hh ⊢
    have : fsO ad h a = fsO ad (embS sE) a := by
      unfold fsO
      rw [e0, e1]
      exact List.map_congr_left (fun k hk => fV_E ad (hI k (List.mem_range.mp hk)) (hL k (List.mem_range.mp hk)) (hR k (List.mem_range.mp hk) (Or.inl hc)) _)
    rw [← this]
    exact hh
  · rw [if_neg hc] at hh ⊢
    have hh : H[ad a]? = some (vp_cell (G.cy (q.1 - 100)) (q.2, if q.1 = 101 then .inr (.inl (h.L a)) else if 104 ≤ q.1 then .inr (.inr (.inr (.inr (fun j => (h.R a j).map ad)))) else .inl (h.I a))) := hh
    refine (show H[ad a]? = some (vp_cell (G.cy (q.1 - 100)) (q.2, if q.1 = 101 then .inr (.inl ((embS sE).L a)) else if 104 ≤ q.1 then .inr (.inr (.inr (.inr (fun j => ((embS sE).R a j).map ad)))) else .inl ((embS sE).I a))) from hh.trans (congrArg some ?_))
    by_cases c1 : q.1 = 101
    · rw [if_pos c1, if_pos c1]
      exact arrV_congr _ (fun j hj => congrArg Value.long (hL j hj))
    · rw [if_neg c1, if_neg c1]
      by_cases c2 : 104 ≤ q.1
      · rw [if_pos c2, if_pos c2]
        exact arrV_congr _ (fun j hj => congrArg (fun z => va_rf (Option.map ad z)) (hR j hj (Or.inr c2)))
      · rw [if_neg c2, if_neg c2]
        exact arrV_congr _ (fun j hj => congrArg Value.int (hI j hj))
def cloB (q : Option Nat) : Bool := match q with
  | some b => nlt b 113
  | none => true
theorem RFl_in : (List.range 113).all (fun a => (RFl 13 20 a).all cloB) = true := by decide +kernel
theorem RFl_out {a : Nat} (h : 113 ≤ a) : RFl 13 20 a = [] := by
  unfold RFl
  rw [nlt_f (show ¬ a < 35 by omega), nlt_f (show ¬ a < 50 by omega), nlt_f (show ¬ a < 62 by omega), nlt_f (show ¬ a < 70 by omega), nlt_f (show ¬ a < 74 by omega), nbeq_f (show a ≠ 74 by omega)]
  rfl
theorem sE_clo : clo (embS sE) := by
  intro a k b h
  have h : (RFl 13 20 a).getD k none = some b := h
  by_cases ha : a < 113
  · have g := all_range RFl_in ha
    rw [List.getD_eq_getElem?_getD] at h
    cases hk : (RFl 13 20 a)[k]? with
    | none => rw [hk] at h; cases h
    | some q =>
      rw [hk] at h
      have h : q = some b := h
      have := List.all_eq_true.mp g q (List.mem_of_getElem? hk)
      rw [h] at this
      exact Nat.le_of_ble_eq_true this
  · rw [RFl_out (by omega)] at h
    cases h
theorem Rl_gen {G : Gm} {A : Nat → Prop} {s : State} {n0 sl0 : Nat} {ad0 ad : Nat → Nat} {H : Heap} {locs : List Loc} {cells slots : Nat} {h : AH} (hn : h.n = 113) (hs : h.sl = 6344) (e0 : ∀ a, a < 113 → h.sh a = SHf a) (hI : ∀ a k, a < 113 → k < (SHf a).2 → h.I a k = I0 a k) (hL : ∀ a k, a < 113 → k < (SHf a).2 → h.L a k = 0) (hR : ∀ a k, a < 113 → k < (SHf a).2 → ((SHf a).1 < 100 ∨ 104 ≤ (SHf a).1) → h.R a k = RF 13 20 a k) (hh : Rl G A s n0 sl0 ad0 ad h H locs cells slots) : Rl G A s n0 sl0 ad0 ad (embS sE) H locs cells slots := by
  obtain ⟨a1, a2, a3, a4, a5, a6, a7, a8⟩ := hh
  rw [hn] at a6 a8
  rw [hs] at a7
  refine ⟨vaP_of (fun i (hi : i < 113) => at_E (e0 i hi) (fun k => hI i k hi) (fun k => hL i k hi) (fun k => hR i k hi) ?_), vaD_of (fun i j (hi : i < 113) (hj : j < 113) hij => ?_) (fun i (hi : i < 113) => ?_), a3, sE_clo, a5, a6, a7, a8⟩
  · exact a1 i _ (wsA_get (by rw [hn]; exact hi))
  · exact a2.1 i j _ _ (wsA_get (by rw [hn]; exact hi)) (wsA_get (by rw [hn]; exact hj)) hij
  · exact a2.2 i _ (wsA_get (by rw [hn]; exact hi))
theorem Rl_E {G : Gm} {A : Nat → Prop} {s : State} {n0 sl0 : Nat} {ad0 ad : Nat → Nat} {H : Heap} {locs : List Loc} {cells slots : Nat} (hh : Rl G A s n0 sl0 ad0 ad hE H locs cells slots) : Rl G A s n0 sl0 ad0 ad (embS sE) H locs cells slots := Rl_gen hE_n.1 hE_n.2 (fun _ ha => hE_at ha) (fun _ _ ha hk => hE_Ik ha hk) (fun _ _ ha hk => hE_Lk ha hk) (fun _ _ ha hk hc => hE_Rk ha hk hc) hh
