/-! the constructors: run by number over abstract heaps -/
def rVC (v : Option Value) (h : AH) : Option AH := match v with
  | none => some h
  | _ => none
theorem rVC_of {v : Option Value} {z q : AH} (h : rVC v z = some q) : v = none ∧ z = q := by
  unfold rVC at h
  split at h
  · cases h; exact ⟨rfl, rfl⟩
  · cases h
abbrev EnC : Type := List Value → AH → Option AH
def tlook0 {α : Type} (pc : Nat) : List (Nat × α) → Option α
  | [] => none
  | q :: r => bif Nat.beq pc q.1 then some q.2 else tlook0 pc r
theorem tlook0_mem {α : Type} {pc : Nat} {v : α} : ∀ {t : List (Nat × α)}, tlook0 pc t = some v → (pc, v) ∈ t
  | [], h => by simp [tlook0] at h
  | q :: t, h => by
    unfold tlook0 at h
    cases hb : Nat.beq pc q.1 with
    | true =>
      rw [hb] at h
      cases h
      have := Nat.eq_of_beq_eq_true hb
      subst this
      exact List.mem_cons_self
    | false =>
      rw [hb] at h
      exact List.mem_cons_of_mem _ (tlook0_mem h)
def calC (es : List (Nat × EnC)) : Cal AH := fun ρ y av h k => match tlook0 y es with
  | some f => (f av h).bind fun h' => k none h'
  | none => none
def enCOK (l : Launch) (G : Gm) (D y : Nat) (f : EnC) : Prop := ∀ (av : List Value) (h h' : AH), f av h = some h' → RunsM l G D (md y) h av none h'
theorem calC_ok {l : Launch} {G : Gm} {D Nf Sf : Nat} {es : List (Nat × EnC)} (h : ∀ q ∈ es, enCOK l G D q.1 q.2) : calOK l G (opsC Nf Sf) D (calC es) := by
  intro ρ y av x k r hr
  unfold calC at hr
  split at hr
  · rename_i f hf
    obtain ⟨h', h1, h2⟩ := bind_of hr
    exact ⟨none, h', h2, h _ (tlook0_mem hf) av x h' h1⟩
  · cases hr
theorem encC {l : Launch} {G : Gm} {D y : Nat} {f : EnC} {t : List (Nat × EnC)} (h : enCOK l G D y f) (ht : ∀ q ∈ t, enCOK l G D q.1 q.2) : ∀ q ∈ (y, f) :: t, enCOK l G D q.1 q.2 := List.forall_mem_cons.mpr ⟨h, ht⟩
theorem ennC {l : Launch} {G : Gm} {D : Nat} : ∀ q ∈ ([] : List (Nat × EnC)), enCOK l G D q.1 q.2 := fun _ h => absurd h List.not_mem_nil
def fcr (n0 sl0 dn ds : Nat) (x : Option AH) : Option AH := x.bind fun h' => gd (Nat.beq h'.n (n0 + dn) && Nat.beq h'.sl (sl0 + ds) && Nat.ble h'.n 200) (some h')
theorem runC_core {l : Launch} {G : Gm} {D : Nat} {Y : Md} {h h' : AH} {av : List Value} {dn ds FU : Nat} {tab : List (Nat × Ins AH)} (hy : plainFor Y.1 = true) (hrt : Y.2.2.2 = none)
    (hF : gd (Nat.ble (ent0 av).length Y.2.2.1) (fcr h.n h.sl dn ds (ex tab rVC [] (fun _ _ _ _ => none) FU 0 (ent av Y.2.2.1) [] h)) = some h')
    (hT : ∀ (A : Nat → Prop) (p : Program) (e : Env) (R : Room) (s : State) (m : MethodId) (args : Array Value) (below : List Frame) (meth : Method) (c : Code) (Q : State → Prop) (ad0 : Nat → Nat), R.frames = D → R.locals = 40 * D → h.n + dn ≤ h.n + R.cells → h.sl + ds ≤ h.sl + R.slots → meth.name = Y.1.name → Cx G A Y.1.cls Y.2.1 Y.2.2.1 p s m args c → RetK G A Y.2.1 h.n h.sl ad0 p l e R s m args below meth c Q (opsC (h.n + dn) (h.sl + ds)) rVC h' .return_ okV → ∀ q ∈ tab, OKi G A Y.2.2.1 h.n h.sl ad0 p l e R s m args below meth c Q (opsC (h.n + dn) (h.sl + ds)) rVC h' q.1 q.2) : RunsM l G D Y h av none h' := by
  obtain ⟨hb, hF⟩ := gd_some hF
  obtain ⟨h2, hx, hF⟩ := bind_of hF
  obtain ⟨hg, hF⟩ := gd_some hF
  cases hF
  simp only [Bool.and_eq_true] at hg
  have e1 := Nat.eq_of_beq_eq_true hg.1.1
  have e2 := Nat.eq_of_beq_eq_true hg.1.2
  have e3 := Nat.le_of_ble_eq_true hg.2
  refine runs_core (O := opsC (h.n + dn) (h.sl + ds)) (ret := rVC) (r := h') (x := h) (x' := h') (ins := .return_) (ok := okV) hy (Nat.le_of_ble_eq_true hb) (fun v z hz => rVC_of hz) ⟨by show h.n ≤ h'.n; omega, by show h.sl ≤ h'.sl; omega, e3⟩ (fun hx hb hr hok hq hf d hl => by
    cases hok
    exact W.vret hx hb (hr.trans hrt) hq hf d hl) ?_
  intro A p e R s m args below meth c Q ad0 hR hnm X hret
  have hc : R.cells = h'.n - h.n := by rw [hR]; rfl
  have hs : R.slots = h'.sl - h.sl := by rw [hR]; rfl
  exact ex_good (hT A p e R s m args below meth c Q ad0 (by rw [hR]) (by rw [hR]) (by omega) (by omega) hnm X hret) (fun _ _ _ _ hh => by cases hh) FU 0 _ [] h hx
/-! java/util/Arrays fill -/
def tbC_J7_fill_53178 (Nf Sf : Nat) (cal : Cal AH) : List (Nat × Ins AH) := [(0, e_iconst (0) 1), (1, e_istore 2 2), (2, e_aload 0 3), (3, e_alen (opsC Nf Sf) 4), (4, e_istore 3 5), (5, e_iload 2 6), (6, e_iload 3 7), (7, e_cge 20 10), (10, e_aload 0 11), (11, e_iload 2 12), (12, e_iload 1 13), (13, e_astC (opsC Nf Sf) 14), (14, e_iincC 2 (1) 17), (17, e_goto 5), (20, e_vret)]
set_option maxRecDepth 100000 in
set_option maxHeartbeats 4000000 in
theorem tkC_J7_fill_53178 {ad0 : Nat → Nat} {G : Gm} {A : Nat → Prop} {p : Program} {l : Launch} {e : Env} {R : Room} {s0 : State} {m : MethodId} {args : Array Value} {below : List Frame} {meth : Method} {c : Code} {Q : State → Prop} {n0 sl0 : Nat} {ρ : Type} {ret : Option Value → AH → Option ρ} {r : ρ} (X : Cx G A RJ7 cJ7_fill_53178 4 p s0 m args c) {D' Nf Sf : Nat} {cal : Cal AH} (hcal : calOK l G (opsC Nf Sf) D' cal) (hRm : ∀ k, k ≤ 21 → D' + 1 ≤ R.frames ∧ 8 + (k + 11) + 40 * D' ≤ R.locals) (hNf : Nf ≤ n0 + R.cells) (hSf : Sf ≤ sl0 + R.slots) (hmn : meth.name = "fill") (hret : RetK G A cJ7_fill_53178 n0 sl0 ad0 p l e R s0 m args below meth c Q (opsC Nf Sf) ret r .return_ okV) : ∀ q ∈ tbC_J7_fill_53178 Nf Sf cal, OKi G A 4 n0 sl0 ad0 p l e R s0 m args below meth c Q (opsC Nf Sf) ret r q.1 q.2 :=
    okc (ok_iconst (n := 0) X (by decide +kernel) rfl rfl) (
    okc (ok_istore_n (j := 2) X (by decide +kernel) rfl rfl) (
    okc (ok_aload_n (j := 0) X (by decide +kernel) rfl rfl) (
    okc (ok_alen X (by decide +kernel) rfl) (
    okc (ok_istore_n (j := 3) X (by decide +kernel) rfl rfl) (
    okc (ok_iload_n (j := 2) X (by decide +kernel) rfl rfl) (
    okc (ok_iload_n (j := 3) X (by decide +kernel) rfl rfl) (
    okc (ok_cge (off := 13) X (by decide +kernel) (by decide) rfl) (
    okc (ok_aload_n (j := 0) X (by decide +kernel) rfl rfl) (
    okc (ok_iload_n (j := 2) X (by decide +kernel) rfl rfl) (
    okc (ok_iload_n (j := 1) X (by decide +kernel) rfl rfl) (
    okc (ok_iastC X (opsC_ok Nf Sf) (by decide +kernel) rfl) (
    okc (ok_iincC (n := 1) X (by decide +kernel) rfl rfl) (
    okc (ok_goto (off := -12) X (by decide +kernel) (by decide)) (
    okc (ok_vret hret (by decide +kernel)) (
    okn)))))))))))))))
def FC_J7_fill_53178 : EnC := fun av h => gd (Nat.ble (ent0 av).length 4) (fcr h.n h.sl 0 0 (ex (tbC_J7_fill_53178 (h.n + 0) (h.sl + 0) (calC [])) rVC [] (fun _ _ _ _ => none) 600 0 (ent av 4) [] h))
set_option maxRecDepth 100000 in
set_option maxHeartbeats 4000000 in
theorem runC_J7_fill_53178 {l : Launch} {G : Gm} (D : Nat) (hD : 1 ≤ D) : enCOK l G D 266 FC_J7_fill_53178 := by
  intro av h h' hF
  obtain ⟨D', rfl⟩ : ∃ D', D = D' + 1 := ⟨D - 1, by omega⟩
  rw [md_J7_fill_53178]
  refine runC_core (dn := 0) (ds := 0) (by decide +kernel) rfl hF ?_
  intro A p e R s0 m args below meth c Q ad0 hfr hlo hn hs hmn X hret
  have X : Cx G A RJ7 cJ7_fill_53178 4 p s0 m args c := X
  exact tkC_J7_fill_53178 (D' := D') X (calC_ok (ennC)) (fun k hk => ⟨by omega, by omega⟩) hn hs hmn hret
/-! HatRank$Town <init> -/
def tbC_X9_init (Nf Sf : Nat) (cal : Cal AH) : List (Nat × Ins AH) := [(0, e_aload 0 1), (1, e_obj 4), (4, e_aload 0 5), (5, e_iconst (6) 7), (7, e_newa (opsC Nf Sf) 100 9), (9, e_putR (opsC Nf Sf) 9 3 12), (12, e_aload 0 13), (13, e_iconst (7) 15), (15, e_newa (opsC Nf Sf) 100 17), (17, e_putR (opsC Nf Sf) 9 4 20), (20, e_aload 0 21), (21, e_iconst (7) 23), (23, e_newa (opsC Nf Sf) 100 25), (25, e_putR (opsC Nf Sf) 9 5 28), (28, e_aload 0 29), (29, e_iconst (24) 31), (31, e_newa (opsC Nf Sf) 100 33), (33, e_putR (opsC Nf Sf) 9 6 36), (36, e_aload 0 37), (37, e_iconst (7) 39), (39, e_newa (opsC Nf Sf) 100 41), (41, e_putR (opsC Nf Sf) 9 7 44), (44, e_aload 0 45), (45, e_getR (opsC Nf Sf) 9 6 48), (48, e_iconst (3) 49), (49, e_callSI (opsC Nf Sf) Nf Sf cal 266 2 52), (52, e_vret)]
set_option maxRecDepth 100000 in
set_option maxHeartbeats 4000000 in
theorem tkC_X9_init {ad0 : Nat → Nat} {G : Gm} {A : Nat → Prop} {p : Program} {l : Launch} {e : Env} {R : Room} {s0 : State} {m : MethodId} {args : Array Value} {below : List Frame} {meth : Method} {c : Code} {Q : State → Prop} {n0 sl0 : Nat} {ρ : Type} {ret : Option Value → AH → Option ρ} {r : ρ} (X : Cx G A RX9 cX9_init 1 p s0 m args c) {D' Nf Sf : Nat} {cal : Cal AH} (hcal : calOK l G (opsC Nf Sf) D' cal) (hRm : ∀ k, k ≤ 21 → D' + 1 ≤ R.frames ∧ 8 + (k + 11) + 40 * D' ≤ R.locals) (hNf : Nf ≤ n0 + R.cells) (hSf : Sf ≤ sl0 + R.slots) (hmn : meth.name = "<init>") (hret : RetK G A cX9_init n0 sl0 ad0 p l e R s0 m args below meth c Q (opsC Nf Sf) ret r .return_ okV) : ∀ q ∈ tbC_X9_init Nf Sf cal, OKi G A 1 n0 sl0 ad0 p l e R s0 m args below meth c Q (opsC Nf Sf) ret r q.1 q.2 :=
    okc (ok_aload_n (j := 0) X (by decide +kernel) rfl rfl) (
    okc (ok_obj X wl_X9_3 wm_obj wc_obj (rm26 hRm) (by decide +kernel) rfl) (
    okc (ok_aload_n (j := 0) X (by decide +kernel) rfl rfl) (
    okc (ok_bipush (n := 6) X (by decide +kernel) rfl rfl) (
    okc (ok_newa_int X (opsC_ok Nf Sf) hNf hSf (by decide +kernel) rfl) (
    okc (ok_putF (ci := 9) (kf := 3) (idx := 9) (C := RX9) (T := TX9) (N := 8) (ty := .array .int) X (opsC_ok Nf Sf) rfl (by decide) inX9 tyX9_ok nmX9 (by decide) wf_X9_9 rfl hmn rfl (fun _ _ _ => rfl) (by decide +kernel) (fun _ => rfl) (fun _ => rfl) (by decide +kernel) rfl) (
    okc (ok_aload_n (j := 0) X (by decide +kernel) rfl rfl) (
    okc (ok_bipush (n := 7) X (by decide +kernel) rfl rfl) (
    okc (ok_newa_int X (opsC_ok Nf Sf) hNf hSf (by decide +kernel) rfl) (
    okc (ok_putF (ci := 9) (kf := 4) (idx := 15) (C := RX9) (T := TX9) (N := 8) (ty := .array .int) X (opsC_ok Nf Sf) rfl (by decide) inX9 tyX9_ok nmX9 (by decide) wf_X9_15 rfl hmn rfl (fun _ _ _ => rfl) (by decide +kernel) (fun _ => rfl) (fun _ => rfl) (by decide +kernel) rfl) (
    okc (ok_aload_n (j := 0) X (by decide +kernel) rfl rfl) (
    okc (ok_bipush (n := 7) X (by decide +kernel) rfl rfl) (
    okc (ok_newa_int X (opsC_ok Nf Sf) hNf hSf (by decide +kernel) rfl) (
    okc (ok_putF (ci := 9) (kf := 5) (idx := 18) (C := RX9) (T := TX9) (N := 8) (ty := .array .int) X (opsC_ok Nf Sf) rfl (by decide) inX9 tyX9_ok nmX9 (by decide) wf_X9_18 rfl hmn rfl (fun _ _ _ => rfl) (by decide +kernel) (fun _ => rfl) (fun _ => rfl) (by decide +kernel) rfl) (
    okc (ok_aload_n (j := 0) X (by decide +kernel) rfl rfl) (
    okc (ok_bipush (n := 24) X (by decide +kernel) rfl rfl) (
    okc (ok_newa_int X (opsC_ok Nf Sf) hNf hSf (by decide +kernel) rfl) (
    okc (ok_putF (ci := 9) (kf := 6) (idx := 21) (C := RX9) (T := TX9) (N := 8) (ty := .array .int) X (opsC_ok Nf Sf) rfl (by decide) inX9 tyX9_ok nmX9 (by decide) wf_X9_21 rfl hmn rfl (fun _ _ _ => rfl) (by decide +kernel) (fun _ => rfl) (fun _ => rfl) (by decide +kernel) rfl) (
    okc (ok_aload_n (j := 0) X (by decide +kernel) rfl rfl) (
    okc (ok_bipush (n := 7) X (by decide +kernel) rfl rfl) (
    okc (ok_newa_int X (opsC_ok Nf Sf) hNf hSf (by decide +kernel) rfl) (
    okc (ok_putF (ci := 9) (kf := 7) (idx := 24) (C := RX9) (T := TX9) (N := 8) (ty := .array .int) X (opsC_ok Nf Sf) rfl (by decide) inX9 tyX9_ok nmX9 (by decide) wf_X9_24 rfl hmn rfl (fun _ _ _ => rfl) (by decide +kernel) (fun _ => rfl) (fun _ => rfl) (by decide +kernel) rfl) (
    okc (ok_aload_n (j := 0) X (by decide +kernel) rfl rfl) (
    okc (ok_getR (ci := 9) (kf := 6) (idx := 21) (C := RX9) (T := TX9) (N := 8) X rfl (by decide) inX9 (by decide) wf_X9_21 (fun _ _ _ => rfl) (by decide +kernel) rfl) (
    okc (ok_iconst (n := 3) X (by decide +kernel) rfl rfl) (
    okc (ok_callSI (Y := (yJ7_fill_53178, cJ7_fill_53178, 4, none)) X hcal hNf hSf md_J7_fill_53178 wc_J7_fill_53178 wl_X9_27 wi_J7 ws_J7_fill_53178 (by decide +kernel) (hRm 4 (by decide)) (by decide +kernel) rfl) (
    okc (ok_vret hret (by decide +kernel)) (
    okn)))))))))))))))))))))))))))
def FC_X9_init : EnC := fun av h => gd (Nat.ble (ent0 av).length 1) (fcr h.n h.sl 5 51 (ex (tbC_X9_init (h.n + 5) (h.sl + 51) (calC [(266, FC_J7_fill_53178)])) rVC [] (fun _ _ _ _ => none) 29 0 (ent av 1) [] h))
set_option maxRecDepth 100000 in
set_option maxHeartbeats 4000000 in
theorem runC_X9_init {l : Launch} {G : Gm} (D : Nat) (hD : 2 ≤ D) : enCOK l G D 76 FC_X9_init := by
  intro av h h' hF
  obtain ⟨D', rfl⟩ : ∃ D', D = D' + 1 := ⟨D - 1, by omega⟩
  rw [md_X9_init]
  refine runC_core (dn := 5) (ds := 51) (plainFor_of_name (by decide +kernel)) rfl hF ?_
  intro A p e R s0 m args below meth c Q ad0 hfr hlo hn hs hmn X hret
  have X : Cx G A RX9 cX9_init 1 p s0 m args c := X
  exact tkC_X9_init (D' := D') X (calC_ok (encC (runC_J7_fill_53178 D' (by omega)) (ennC))) (fun k hk => ⟨by omega, by omega⟩) hn hs hmn hret
/-! HatRank$Day <init> -/
def tbC_X2_init (Nf Sf : Nat) (cal : Cal AH) : List (Nat × Ins AH) := [(0, e_aload 0 1), (1, e_obj 4), (4, e_aload 0 5), (5, e_iconst (6) 7), (7, e_newa (opsC Nf Sf) 100 9), (9, e_putR (opsC Nf Sf) 2 0 12), (12, e_aload 0 13), (13, e_iconst (6) 15), (15, e_newa (opsC Nf Sf) 100 17), (17, e_putR (opsC Nf Sf) 2 1 20), (20, e_aload 0 21), (21, e_iconst (7) 23), (23, e_newa (opsC Nf Sf) 100 25), (25, e_putR (opsC Nf Sf) 2 2 28), (28, e_vret)]
set_option maxRecDepth 100000 in
set_option maxHeartbeats 4000000 in
theorem tkC_X2_init {ad0 : Nat → Nat} {G : Gm} {A : Nat → Prop} {p : Program} {l : Launch} {e : Env} {R : Room} {s0 : State} {m : MethodId} {args : Array Value} {below : List Frame} {meth : Method} {c : Code} {Q : State → Prop} {n0 sl0 : Nat} {ρ : Type} {ret : Option Value → AH → Option ρ} {r : ρ} (X : Cx G A RX2 cX2_init 1 p s0 m args c) {D' Nf Sf : Nat} {cal : Cal AH} (hcal : calOK l G (opsC Nf Sf) D' cal) (hRm : ∀ k, k ≤ 21 → D' + 1 ≤ R.frames ∧ 8 + (k + 11) + 40 * D' ≤ R.locals) (hNf : Nf ≤ n0 + R.cells) (hSf : Sf ≤ sl0 + R.slots) (hmn : meth.name = "<init>") (hret : RetK G A cX2_init n0 sl0 ad0 p l e R s0 m args below meth c Q (opsC Nf Sf) ret r .return_ okV) : ∀ q ∈ tbC_X2_init Nf Sf cal, OKi G A 1 n0 sl0 ad0 p l e R s0 m args below meth c Q (opsC Nf Sf) ret r q.1 q.2 :=
    okc (ok_aload_n (j := 0) X (by decide +kernel) rfl rfl) (
    okc (ok_obj X wl_X2_3 wm_obj wc_obj (rm26 hRm) (by decide +kernel) rfl) (
    okc (ok_aload_n (j := 0) X (by decide +kernel) rfl rfl) (
    okc (ok_bipush (n := 6) X (by decide +kernel) rfl rfl) (
    okc (ok_newa_int X (opsC_ok Nf Sf) hNf hSf (by decide +kernel) rfl) (
    okc (ok_putF (ci := 2) (kf := 0) (idx := 9) (C := RX2) (T := TX2) (N := 4) (ty := .array .int) X (opsC_ok Nf Sf) rfl (by decide) inX2 tyX2_ok nmX2 (by decide) wf_X2_9 rfl hmn rfl (fun _ _ _ => rfl) (by decide +kernel) (fun _ => rfl) (fun _ => rfl) (by decide +kernel) rfl) (
    okc (ok_aload_n (j := 0) X (by decide +kernel) rfl rfl) (
    okc (ok_bipush (n := 6) X (by decide +kernel) rfl rfl) (
    okc (ok_newa_int X (opsC_ok Nf Sf) hNf hSf (by decide +kernel) rfl) (
    okc (ok_putF (ci := 2) (kf := 1) (idx := 15) (C := RX2) (T := TX2) (N := 4) (ty := .array .int) X (opsC_ok Nf Sf) rfl (by decide) inX2 tyX2_ok nmX2 (by decide) wf_X2_15 rfl hmn rfl (fun _ _ _ => rfl) (by decide +kernel) (fun _ => rfl) (fun _ => rfl) (by decide +kernel) rfl) (
    okc (ok_aload_n (j := 0) X (by decide +kernel) rfl rfl) (
    okc (ok_bipush (n := 7) X (by decide +kernel) rfl rfl) (
    okc (ok_newa_int X (opsC_ok Nf Sf) hNf hSf (by decide +kernel) rfl) (
    okc (ok_putF (ci := 2) (kf := 2) (idx := 18) (C := RX2) (T := TX2) (N := 4) (ty := .array .int) X (opsC_ok Nf Sf) rfl (by decide) inX2 tyX2_ok nmX2 (by decide) wf_X2_18 rfl hmn rfl (fun _ _ _ => rfl) (by decide +kernel) (fun _ => rfl) (fun _ => rfl) (by decide +kernel) rfl) (
    okc (ok_vret hret (by decide +kernel)) (
    okn)))))))))))))))
def FC_X2_init : EnC := fun av h => gd (Nat.ble (ent0 av).length 1) (fcr h.n h.sl 3 19 (ex (tbC_X2_init (h.n + 3) (h.sl + 19) (calC [])) rVC [] (fun _ _ _ _ => none) 17 0 (ent av 1) [] h))
set_option maxRecDepth 100000 in
set_option maxHeartbeats 4000000 in
theorem runC_X2_init {l : Launch} {G : Gm} (D : Nat) (hD : 1 ≤ D) : enCOK l G D 17 FC_X2_init := by
  intro av h h' hF
  obtain ⟨D', rfl⟩ : ∃ D', D = D' + 1 := ⟨D - 1, by omega⟩
  rw [md_X2_init]
  refine runC_core (dn := 3) (ds := 19) (plainFor_of_name (by decide +kernel)) rfl hF ?_
  intro A p e R s0 m args below meth c Q ad0 hfr hlo hn hs hmn X hret
  have X : Cx G A RX2 cX2_init 1 p s0 m args c := X
  exact tkC_X2_init (D' := D') X (calC_ok (ennC)) (fun k hk => ⟨by omega, by omega⟩) hn hs hmn hret
/-! HatRank$Formula <init> -/
def tbC_X3_init (Nf Sf : Nat) (cal : Cal AH) : List (Nat × Ins AH) := [(0, e_aload 0 1), (1, e_obj 4), (4, e_aload 0 5), (5, e_iconst (126) 7), (7, e_newa (opsC Nf Sf) 100 9), (9, e_putR (opsC Nf Sf) 3 0 12), (12, e_aload 0 13), (13, e_iconst (126) 15), (15, e_newa (opsC Nf Sf) 100 17), (17, e_putR (opsC Nf Sf) 3 1 20), (20, e_aload 0 21), (21, e_iconst (126) 23), (23, e_newa (opsC Nf Sf) 100 25), (25, e_putR (opsC Nf Sf) 3 2 28), (28, e_aload 0 29), (29, e_iconst (126) 31), (31, e_newa (opsC Nf Sf) 100 33), (33, e_putR (opsC Nf Sf) 3 3 36), (36, e_aload 0 37), (37, e_iconst (120) 39), (39, e_newa (opsC Nf Sf) 100 41), (41, e_putR (opsC Nf Sf) 3 4 44), (44, e_aload 0 45), (45, e_iconst (120) 47), (47, e_newa (opsC Nf Sf) 100 49), (49, e_putR (opsC Nf Sf) 3 5 52), (52, e_aload 0 53), (53, e_iconst (6) 55), (55, e_putI (opsC Nf Sf) 3 6 58), (58, e_vret)]
set_option maxRecDepth 100000 in
set_option maxHeartbeats 4000000 in
theorem tkC_X3_init {ad0 : Nat → Nat} {G : Gm} {A : Nat → Prop} {p : Program} {l : Launch} {e : Env} {R : Room} {s0 : State} {m : MethodId} {args : Array Value} {below : List Frame} {meth : Method} {c : Code} {Q : State → Prop} {n0 sl0 : Nat} {ρ : Type} {ret : Option Value → AH → Option ρ} {r : ρ} (X : Cx G A RX3 cX3_init 1 p s0 m args c) {D' Nf Sf : Nat} {cal : Cal AH} (hcal : calOK l G (opsC Nf Sf) D' cal) (hRm : ∀ k, k ≤ 21 → D' + 1 ≤ R.frames ∧ 8 + (k + 11) + 40 * D' ≤ R.locals) (hNf : Nf ≤ n0 + R.cells) (hSf : Sf ≤ sl0 + R.slots) (hmn : meth.name = "<init>") (hret : RetK G A cX3_init n0 sl0 ad0 p l e R s0 m args below meth c Q (opsC Nf Sf) ret r .return_ okV) : ∀ q ∈ tbC_X3_init Nf Sf cal, OKi G A 1 n0 sl0 ad0 p l e R s0 m args below meth c Q (opsC Nf Sf) ret r q.1 q.2 :=
    okc (ok_aload_n (j := 0) X (by decide +kernel) rfl rfl) (
    okc (ok_obj X wl_X3_5 wm_obj wc_obj (rm26 hRm) (by decide +kernel) rfl) (
    okc (ok_aload_n (j := 0) X (by decide +kernel) rfl rfl) (
    okc (ok_bipush (n := 126) X (by decide +kernel) rfl rfl) (
    okc (ok_newa_int X (opsC_ok Nf Sf) hNf hSf (by decide +kernel) rfl) (
    okc (ok_putF (ci := 3) (kf := 0) (idx := 11) (C := RX3) (T := TX3) (N := 8) (ty := .array .int) X (opsC_ok Nf Sf) rfl (by decide) inX3 tyX3_ok nmX3 (by decide) wf_X3_11 rfl hmn rfl (fun _ _ _ => rfl) (by decide +kernel) (fun _ => rfl) (fun _ => rfl) (by decide +kernel) rfl) (
    okc (ok_aload_n (j := 0) X (by decide +kernel) rfl rfl) (
    okc (ok_bipush (n := 126) X (by decide +kernel) rfl rfl) (
    okc (ok_newa_int X (opsC_ok Nf Sf) hNf hSf (by decide +kernel) rfl) (
    okc (ok_putF (ci := 3) (kf := 1) (idx := 15) (C := RX3) (T := TX3) (N := 8) (ty := .array .int) X (opsC_ok Nf Sf) rfl (by decide) inX3 tyX3_ok nmX3 (by decide) wf_X3_15 rfl hmn rfl (fun _ _ _ => rfl) (by decide +kernel) (fun _ => rfl) (fun _ => rfl) (by decide +kernel) rfl) (
    okc (ok_aload_n (j := 0) X (by decide +kernel) rfl rfl) (
    okc (ok_bipush (n := 126) X (by decide +kernel) rfl rfl) (
    okc (ok_newa_int X (opsC_ok Nf Sf) hNf hSf (by decide +kernel) rfl) (
    okc (ok_putF (ci := 3) (kf := 2) (idx := 18) (C := RX3) (T := TX3) (N := 8) (ty := .array .int) X (opsC_ok Nf Sf) rfl (by decide) inX3 tyX3_ok nmX3 (by decide) wf_X3_18 rfl hmn rfl (fun _ _ _ => rfl) (by decide +kernel) (fun _ => rfl) (fun _ => rfl) (by decide +kernel) rfl) (
    okc (ok_aload_n (j := 0) X (by decide +kernel) rfl rfl) (
    okc (ok_bipush (n := 126) X (by decide +kernel) rfl rfl) (
    okc (ok_newa_int X (opsC_ok Nf Sf) hNf hSf (by decide +kernel) rfl) (
    okc (ok_putF (ci := 3) (kf := 3) (idx := 21) (C := RX3) (T := TX3) (N := 8) (ty := .array .int) X (opsC_ok Nf Sf) rfl (by decide) inX3 tyX3_ok nmX3 (by decide) wf_X3_21 rfl hmn rfl (fun _ _ _ => rfl) (by decide +kernel) (fun _ => rfl) (fun _ => rfl) (by decide +kernel) rfl) (
    okc (ok_aload_n (j := 0) X (by decide +kernel) rfl rfl) (
    okc (ok_bipush (n := 120) X (by decide +kernel) rfl rfl) (
    okc (ok_newa_int X (opsC_ok Nf Sf) hNf hSf (by decide +kernel) rfl) (
    okc (ok_putF (ci := 3) (kf := 4) (idx := 24) (C := RX3) (T := TX3) (N := 8) (ty := .array .int) X (opsC_ok Nf Sf) rfl (by decide) inX3 tyX3_ok nmX3 (by decide) wf_X3_24 rfl hmn rfl (fun _ _ _ => rfl) (by decide +kernel) (fun _ => rfl) (fun _ => rfl) (by decide +kernel) rfl) (
    okc (ok_aload_n (j := 0) X (by decide +kernel) rfl rfl) (
    okc (ok_bipush (n := 120) X (by decide +kernel) rfl rfl) (
    okc (ok_newa_int X (opsC_ok Nf Sf) hNf hSf (by decide +kernel) rfl) (
    okc (ok_putF (ci := 3) (kf := 5) (idx := 27) (C := RX3) (T := TX3) (N := 8) (ty := .array .int) X (opsC_ok Nf Sf) rfl (by decide) inX3 tyX3_ok nmX3 (by decide) wf_X3_27 rfl hmn rfl (fun _ _ _ => rfl) (by decide +kernel) (fun _ => rfl) (fun _ => rfl) (by decide +kernel) rfl) (
    okc (ok_aload_n (j := 0) X (by decide +kernel) rfl rfl) (
    okc (ok_bipush (n := 6) X (by decide +kernel) rfl rfl) (
    okc (ok_putI (ci := 3) (kf := 6) (idx := 30) (C := RX3) (T := TX3) (N := 8) X (opsC_ok Nf Sf) rfl (by decide) inX3 tyX3_ok nmX3 (by decide) wf_X3_30 rfl (fun _ _ _ => rfl) (by decide +kernel) (by decide +kernel) rfl) (
    okc (ok_vret hret (by decide +kernel)) (
    okn))))))))))))))))))))))))))))))
def FC_X3_init : EnC := fun av h => gd (Nat.ble (ent0 av).length 1) (fcr h.n h.sl 6 744 (ex (tbC_X3_init (h.n + 6) (h.sl + 744) (calC [])) rVC [] (fun _ _ _ _ => none) 32 0 (ent av 1) [] h))
set_option maxRecDepth 100000 in
set_option maxHeartbeats 4000000 in
theorem runC_X3_init {l : Launch} {G : Gm} (D : Nat) (hD : 1 ≤ D) : enCOK l G D 20 FC_X3_init := by
  intro av h h' hF
  obtain ⟨D', rfl⟩ : ∃ D', D = D' + 1 := ⟨D - 1, by omega⟩
  rw [md_X3_init]
  refine runC_core (dn := 6) (ds := 744) (plainFor_of_name (by decide +kernel)) rfl hF ?_
  intro A p e R s0 m args below meth c Q ad0 hfr hlo hn hs hmn X hret
  have X : Cx G A RX3 cX3_init 1 p s0 m args c := X
  exact tkC_X3_init (D' := D') X (calC_ok (ennC)) (fun k hk => ⟨by omega, by omega⟩) hn hs hmn hret
/-! HatRank$Tape <init> -/
def tbC_X8_init (Nf Sf : Nat) (cal : Cal AH) : List (Nat × Ins AH) := [(0, e_aload 0 1), (1, e_obj 4), (4, e_aload 0 5), (5, e_iconst (120) 7), (7, e_newa (opsC Nf Sf) 100 9), (9, e_putR (opsC Nf Sf) 8 1 12), (12, e_aload 0 13), (13, e_new (opsC Nf Sf) 3 8 16), (16, e_dup 17), (17, e_callI (opsC Nf Sf) Nf Sf cal 20 0 3 20), (20, e_putR (opsC Nf Sf) 8 3 23), (23, e_aload 0 24), (24, e_new (opsC Nf Sf) 3 8 27), (27, e_dup 28), (28, e_callI (opsC Nf Sf) Nf Sf cal 20 0 3 31), (31, e_putR (opsC Nf Sf) 8 4 34), (34, e_vret)]
set_option maxRecDepth 100000 in
set_option maxHeartbeats 4000000 in
theorem tkC_X8_init {ad0 : Nat → Nat} {G : Gm} {A : Nat → Prop} {p : Program} {l : Launch} {e : Env} {R : Room} {s0 : State} {m : MethodId} {args : Array Value} {below : List Frame} {meth : Method} {c : Code} {Q : State → Prop} {n0 sl0 : Nat} {ρ : Type} {ret : Option Value → AH → Option ρ} {r : ρ} (X : Cx G A RX8 cX8_init 1 p s0 m args c) {D' Nf Sf : Nat} {cal : Cal AH} (hcal : calOK l G (opsC Nf Sf) D' cal) (hRm : ∀ k, k ≤ 21 → D' + 1 ≤ R.frames ∧ 8 + (k + 11) + 40 * D' ≤ R.locals) (hNf : Nf ≤ n0 + R.cells) (hSf : Sf ≤ sl0 + R.slots) (hmn : meth.name = "<init>") (hret : RetK G A cX8_init n0 sl0 ad0 p l e R s0 m args below meth c Q (opsC Nf Sf) ret r .return_ okV) : ∀ q ∈ tbC_X8_init Nf Sf cal, OKi G A 1 n0 sl0 ad0 p l e R s0 m args below meth c Q (opsC Nf Sf) ret r q.1 q.2 :=
    okc (ok_aload_n (j := 0) X (by decide +kernel) rfl rfl) (
    okc (ok_obj X wl_X8_3 wm_obj wc_obj (rm26 hRm) (by decide +kernel) rfl) (
    okc (ok_aload_n (j := 0) X (by decide +kernel) rfl rfl) (
    okc (ok_bipush (n := 120) X (by decide +kernel) rfl rfl) (
    okc (ok_newa_int X (opsC_ok Nf Sf) hNf hSf (by decide +kernel) rfl) (
    okc (ok_putF (ci := 8) (kf := 1) (idx := 9) (C := RX8) (T := TX8) (N := 5) (ty := .array .int) X (opsC_ok Nf Sf) rfl (by decide) inX8 tyX8_ok nmX8 (by decide) wf_X8_9 rfl hmn rfl (fun _ _ _ => rfl) (by decide +kernel) (fun _ => rfl) (fun _ => rfl) (by decide +kernel) rfl) (
    okc (ok_aload_n (j := 0) X (by decide +kernel) rfl rfl) (
    okc (ok_new (C := RX3) (T := TX3) (N := 8) (ci := 3) (idx := 15) X (opsC_ok Nf Sf) hNf hSf rfl (by decide) inX3 tyX3_ok (by decide +kernel) wq_X8_15 wt_X3 wi_X3 (by decide +kernel) rfl) (
    okc (ok_dup X (by decide +kernel) rfl) (
    okc (ok_callI (Y := (yX3_init, cX3_init, 1, none)) X hcal hNf hSf md_X3_init rfl rfl wc_X3_init wl_X8_17 wi_X3 wm_X3_init (by decide +kernel) (hRm 1 (by decide)) (by decide +kernel) rfl) (
    okc (ok_putR (ci := 8) (kf := 3) (idx := 18) (C := RX8) (T := TX8) (N := 5) (ty := .object "HatRank$Formula") X (opsC_ok Nf Sf) rfl (by decide) inX8 tyX8_ok nmX8 (by decide) wf_X8_18 rfl (fun _ _ _ => rfl) (by decide +kernel) (fun _ => rfl) (fun _ => rfl) (by decide +kernel) rfl) (
    okc (ok_aload_n (j := 0) X (by decide +kernel) rfl rfl) (
    okc (ok_new (C := RX3) (T := TX3) (N := 8) (ci := 3) (idx := 15) X (opsC_ok Nf Sf) hNf hSf rfl (by decide) inX3 tyX3_ok (by decide +kernel) wq_X8_15 wt_X3 wi_X3 (by decide +kernel) rfl) (
    okc (ok_dup X (by decide +kernel) rfl) (
    okc (ok_callI (Y := (yX3_init, cX3_init, 1, none)) X hcal hNf hSf md_X3_init rfl rfl wc_X3_init wl_X8_17 wi_X3 wm_X3_init (by decide +kernel) (hRm 1 (by decide)) (by decide +kernel) rfl) (
    okc (ok_putR (ci := 8) (kf := 4) (idx := 22) (C := RX8) (T := TX8) (N := 5) (ty := .object "HatRank$Formula") X (opsC_ok Nf Sf) rfl (by decide) inX8 tyX8_ok nmX8 (by decide) wf_X8_22 rfl (fun _ _ _ => rfl) (by decide +kernel) (fun _ => rfl) (fun _ => rfl) (by decide +kernel) rfl) (
    okc (ok_vret hret (by decide +kernel)) (
    okn)))))))))))))))))
def FC_X8_init : EnC := fun av h => gd (Nat.ble (ent0 av).length 1) (fcr h.n h.sl 15 1624 (ex (tbC_X8_init (h.n + 15) (h.sl + 1624) (calC [(20, FC_X3_init)])) rVC [] (fun _ _ _ _ => none) 19 0 (ent av 1) [] h))
set_option maxRecDepth 100000 in
set_option maxHeartbeats 4000000 in
theorem runC_X8_init {l : Launch} {G : Gm} (D : Nat) (hD : 2 ≤ D) : enCOK l G D 63 FC_X8_init := by
  intro av h h' hF
  obtain ⟨D', rfl⟩ : ∃ D', D = D' + 1 := ⟨D - 1, by omega⟩
  rw [md_X8_init]
  refine runC_core (dn := 15) (ds := 1624) (plainFor_of_name (by decide +kernel)) rfl hF ?_
  intro A p e R s0 m args below meth c Q ad0 hfr hlo hn hs hmn X hret
  have X : Cx G A RX8 cX8_init 1 p s0 m args c := X
  exact tkC_X8_init (D' := D') X (calC_ok (encC (runC_X3_init D' (by omega)) (ennC))) (fun k hk => ⟨by omega, by omega⟩) hn hs hmn hret
/-! HatRank$Gauge <init> -/
def tbC_X4_init (Nf Sf : Nat) (cal : Cal AH) : List (Nat × Ins AH) := [(0, e_aload 0 1), (1, e_obj 4), (4, e_aload 0 5), (5, e_iconst (1440) 8), (8, e_newa (opsC Nf Sf) 100 10), (10, e_putR (opsC Nf Sf) 4 2 13), (13, e_aload 0 14), (14, e_aload 1 15), (15, e_putR (opsC Nf Sf) 4 0 18), (18, e_aload 0 19), (19, e_aload 2 20), (20, e_putR (opsC Nf Sf) 4 1 23), (23, e_vret)]
set_option maxRecDepth 100000 in
set_option maxHeartbeats 4000000 in
theorem tkC_X4_init {ad0 : Nat → Nat} {G : Gm} {A : Nat → Prop} {p : Program} {l : Launch} {e : Env} {R : Room} {s0 : State} {m : MethodId} {args : Array Value} {below : List Frame} {meth : Method} {c : Code} {Q : State → Prop} {n0 sl0 : Nat} {ρ : Type} {ret : Option Value → AH → Option ρ} {r : ρ} (X : Cx G A RX4 cX4_init 3 p s0 m args c) {D' Nf Sf : Nat} {cal : Cal AH} (hcal : calOK l G (opsC Nf Sf) D' cal) (hRm : ∀ k, k ≤ 21 → D' + 1 ≤ R.frames ∧ 8 + (k + 11) + 40 * D' ≤ R.locals) (hNf : Nf ≤ n0 + R.cells) (hSf : Sf ≤ sl0 + R.slots) (hmn : meth.name = "<init>") (hret : RetK G A cX4_init n0 sl0 ad0 p l e R s0 m args below meth c Q (opsC Nf Sf) ret r .return_ okV) : ∀ q ∈ tbC_X4_init Nf Sf cal, OKi G A 3 n0 sl0 ad0 p l e R s0 m args below meth c Q (opsC Nf Sf) ret r q.1 q.2 :=
    okc (ok_aload_n (j := 0) X (by decide +kernel) rfl rfl) (
    okc (ok_obj X wl_X4_3 wm_obj wc_obj (rm26 hRm) (by decide +kernel) rfl) (
    okc (ok_aload_n (j := 0) X (by decide +kernel) rfl rfl) (
    okc (ok_sipush (n := 1440) X (by decide +kernel) rfl rfl) (
    okc (ok_newa_int X (opsC_ok Nf Sf) hNf hSf (by decide +kernel) rfl) (
    okc (ok_putF (ci := 4) (kf := 2) (idx := 9) (C := RX4) (T := TX4) (N := 4) (ty := .array .int) X (opsC_ok Nf Sf) rfl (by decide) inX4 tyX4_ok nmX4 (by decide) wf_X4_9 rfl hmn rfl (fun _ _ _ => rfl) (by decide +kernel) (fun _ => rfl) (fun _ => rfl) (by decide +kernel) rfl) (
    okc (ok_aload_n (j := 0) X (by decide +kernel) rfl rfl) (
    okc (ok_aload_n (j := 1) X (by decide +kernel) rfl rfl) (
    okc (ok_putF (ci := 4) (kf := 0) (idx := 15) (C := RX4) (T := TX4) (N := 4) (ty := .object "HatRank$Town") X (opsC_ok Nf Sf) rfl (by decide) inX4 tyX4_ok nmX4 (by decide) wf_X4_15 rfl hmn rfl (fun _ _ _ => rfl) (by decide +kernel) (fun _ => rfl) (fun _ => rfl) (by decide +kernel) rfl) (
    okc (ok_aload_n (j := 0) X (by decide +kernel) rfl rfl) (
    okc (ok_aload_n (j := 2) X (by decide +kernel) rfl rfl) (
    okc (ok_putF (ci := 4) (kf := 1) (idx := 19) (C := RX4) (T := TX4) (N := 4) (ty := .object "HatRank$Tape") X (opsC_ok Nf Sf) rfl (by decide) inX4 tyX4_ok nmX4 (by decide) wf_X4_19 rfl hmn rfl (fun _ _ _ => rfl) (by decide +kernel) (fun _ => rfl) (fun _ => rfl) (by decide +kernel) rfl) (
    okc (ok_vret hret (by decide +kernel)) (
    okn)))))))))))))
def FC_X4_init : EnC := fun av h => gd (Nat.ble (ent0 av).length 3) (fcr h.n h.sl 1 1440 (ex (tbC_X4_init (h.n + 1) (h.sl + 1440) (calC [])) rVC [] (fun _ _ _ _ => none) 15 0 (ent av 3) [] h))
set_option maxRecDepth 100000 in
set_option maxHeartbeats 4000000 in
theorem runC_X4_init {l : Launch} {G : Gm} (D : Nat) (hD : 1 ≤ D) : enCOK l G D 30 FC_X4_init := by
  intro av h h' hF
  obtain ⟨D', rfl⟩ : ∃ D', D = D' + 1 := ⟨D - 1, by omega⟩
  rw [md_X4_init]
  refine runC_core (dn := 1) (ds := 1440) (plainFor_of_name (by decide +kernel)) rfl hF ?_
  intro A p e R s0 m args below meth c Q ad0 hfr hlo hn hs hmn X hret
  have X : Cx G A RX4 cX4_init 3 p s0 m args c := X
  exact tkC_X4_init (D' := D') X (calC_ok (ennC)) (fun k hk => ⟨by omega, by omega⟩) hn hs hmn hret
/-! HatRank$Wind <init> -/
def tbC_X10_init (Nf Sf : Nat) (cal : Cal AH) : List (Nat × Ins AH) := [(0, e_aload 0 1), (1, e_obj 4), (4, e_aload 0 5), (5, e_new (opsC Nf Sf) 2 4 8), (8, e_dup 9), (9, e_callI (opsC Nf Sf) Nf Sf cal 17 0 2 12), (12, e_putR (opsC Nf Sf) 10 2 15), (15, e_aload 0 16), (16, e_aload 1 17), (17, e_putR (opsC Nf Sf) 10 0 20), (20, e_aload 0 21), (21, e_aload 2 22), (22, e_putR (opsC Nf Sf) 10 1 25), (25, e_vret)]
set_option maxRecDepth 100000 in
set_option maxHeartbeats 4000000 in
theorem tkC_X10_init {ad0 : Nat → Nat} {G : Gm} {A : Nat → Prop} {p : Program} {l : Launch} {e : Env} {R : Room} {s0 : State} {m : MethodId} {args : Array Value} {below : List Frame} {meth : Method} {c : Code} {Q : State → Prop} {n0 sl0 : Nat} {ρ : Type} {ret : Option Value → AH → Option ρ} {r : ρ} (X : Cx G A RX10 cX10_init 3 p s0 m args c) {D' Nf Sf : Nat} {cal : Cal AH} (hcal : calOK l G (opsC Nf Sf) D' cal) (hRm : ∀ k, k ≤ 21 → D' + 1 ≤ R.frames ∧ 8 + (k + 11) + 40 * D' ≤ R.locals) (hNf : Nf ≤ n0 + R.cells) (hSf : Sf ≤ sl0 + R.slots) (hmn : meth.name = "<init>") (hret : RetK G A cX10_init n0 sl0 ad0 p l e R s0 m args below meth c Q (opsC Nf Sf) ret r .return_ okV) : ∀ q ∈ tbC_X10_init Nf Sf cal, OKi G A 3 n0 sl0 ad0 p l e R s0 m args below meth c Q (opsC Nf Sf) ret r q.1 q.2 :=
    okc (ok_aload_n (j := 0) X (by decide +kernel) rfl rfl) (
    okc (ok_obj X wl_X10_3 wm_obj wc_obj (rm26 hRm) (by decide +kernel) rfl) (
    okc (ok_aload_n (j := 0) X (by decide +kernel) rfl rfl) (
    okc (ok_new (C := RX2) (T := TX2) (N := 4) (ci := 2) (idx := 9) X (opsC_ok Nf Sf) hNf hSf rfl (by decide) inX2 tyX2_ok (by decide +kernel) wq_X10_9 wt_X2 wi_X2 (by decide +kernel) rfl) (
    okc (ok_dup X (by decide +kernel) rfl) (
    okc (ok_callI (Y := (yX2_init, cX2_init, 1, none)) X hcal hNf hSf md_X2_init rfl rfl wc_X2_init wl_X10_11 wi_X2 wm_X2_init (by decide +kernel) (hRm 1 (by decide)) (by decide +kernel) rfl) (
    okc (ok_putF (ci := 10) (kf := 2) (idx := 12) (C := RX10) (T := TX10) (N := 4) (ty := .object "HatRank$Day") X (opsC_ok Nf Sf) rfl (by decide) inX10 tyX10_ok nmX10 (by decide) wf_X10_12 rfl hmn rfl (fun _ _ _ => rfl) (by decide +kernel) (fun _ => rfl) (fun _ => rfl) (by decide +kernel) rfl) (
    okc (ok_aload_n (j := 0) X (by decide +kernel) rfl rfl) (
    okc (ok_aload_n (j := 1) X (by decide +kernel) rfl rfl) (
    okc (ok_putF (ci := 10) (kf := 0) (idx := 18) (C := RX10) (T := TX10) (N := 4) (ty := .object "HatRank$Town") X (opsC_ok Nf Sf) rfl (by decide) inX10 tyX10_ok nmX10 (by decide) wf_X10_18 rfl hmn rfl (fun _ _ _ => rfl) (by decide +kernel) (fun _ => rfl) (fun _ => rfl) (by decide +kernel) rfl) (
    okc (ok_aload_n (j := 0) X (by decide +kernel) rfl rfl) (
    okc (ok_aload_n (j := 2) X (by decide +kernel) rfl rfl) (
    okc (ok_putF (ci := 10) (kf := 1) (idx := 22) (C := RX10) (T := TX10) (N := 4) (ty := .object "HatRank$Gauge") X (opsC_ok Nf Sf) rfl (by decide) inX10 tyX10_ok nmX10 (by decide) wf_X10_22 rfl hmn rfl (fun _ _ _ => rfl) (by decide +kernel) (fun _ => rfl) (fun _ => rfl) (by decide +kernel) rfl) (
    okc (ok_vret hret (by decide +kernel)) (
    okn))))))))))))))
def FC_X10_init : EnC := fun av h => gd (Nat.ble (ent0 av).length 3) (fcr h.n h.sl 4 23 (ex (tbC_X10_init (h.n + 4) (h.sl + 23) (calC [(17, FC_X2_init)])) rVC [] (fun _ _ _ _ => none) 16 0 (ent av 3) [] h))
set_option maxRecDepth 100000 in
set_option maxHeartbeats 4000000 in
theorem runC_X10_init {l : Launch} {G : Gm} (D : Nat) (hD : 2 ≤ D) : enCOK l G D 88 FC_X10_init := by
  intro av h h' hF
  obtain ⟨D', rfl⟩ : ∃ D', D = D' + 1 := ⟨D - 1, by omega⟩
  rw [md_X10_init]
  refine runC_core (dn := 4) (ds := 23) (plainFor_of_name (by decide +kernel)) rfl hF ?_
  intro A p e R s0 m args below meth c Q ad0 hfr hlo hn hs hmn X hret
  have X : Cx G A RX10 cX10_init 3 p s0 m args c := X
  exact tkC_X10_init (D' := D') X (calC_ok (encC (runC_X2_init D' (by omega)) (ennC))) (fun k hk => ⟨by omega, by omega⟩) hn hs hmn hret
/-! HatRank$Odds <init> -/
def tbC_X5_init (Nf Sf : Nat) (cal : Cal AH) : List (Nat × Ins AH) := [(0, e_aload 0 1), (1, e_obj 4), (4, e_aload 0 5), (5, e_new (opsC Nf Sf) 2 4 8), (8, e_dup 9), (9, e_callI (opsC Nf Sf) Nf Sf cal 17 0 2 12), (12, e_putR (opsC Nf Sf) 5 3 15), (15, e_aload 0 16), (16, e_iconst (2) 17), (17, e_newa (opsC Nf Sf) 104 20), (20, e_dup 21), (21, e_iconst (0) 22), (22, e_new (opsC Nf Sf) 2 4 25), (25, e_dup 26), (26, e_callI (opsC Nf Sf) Nf Sf cal 17 0 2 29), (29, e_aastC (opsC Nf Sf) 30), (30, e_dup 31), (31, e_iconst (1) 32), (32, e_new (opsC Nf Sf) 2 4 35), (35, e_dup 36), (36, e_callI (opsC Nf Sf) Nf Sf cal 17 0 2 39), (39, e_aastC (opsC Nf Sf) 40), (40, e_putR (opsC Nf Sf) 5 4 43), (43, e_aload 0 44), (44, e_aload 1 45), (45, e_putR (opsC Nf Sf) 5 0 48), (48, e_aload 0 49), (49, e_aload 2 50), (50, e_putR (opsC Nf Sf) 5 1 53), (53, e_aload 0 54), (54, e_aload 3 55), (55, e_putR (opsC Nf Sf) 5 2 58), (58, e_vret)]
set_option maxRecDepth 100000 in
set_option maxHeartbeats 4000000 in
theorem tkC_X5_init {ad0 : Nat → Nat} {G : Gm} {A : Nat → Prop} {p : Program} {l : Launch} {e : Env} {R : Room} {s0 : State} {m : MethodId} {args : Array Value} {below : List Frame} {meth : Method} {c : Code} {Q : State → Prop} {n0 sl0 : Nat} {ρ : Type} {ret : Option Value → AH → Option ρ} {r : ρ} (X : Cx G A RX5 cX5_init 4 p s0 m args c) {D' Nf Sf : Nat} {cal : Cal AH} (hcal : calOK l G (opsC Nf Sf) D' cal) (hRm : ∀ k, k ≤ 21 → D' + 1 ≤ R.frames ∧ 8 + (k + 11) + 40 * D' ≤ R.locals) (hNf : Nf ≤ n0 + R.cells) (hSf : Sf ≤ sl0 + R.slots) (hmn : meth.name = "<init>") (hret : RetK G A cX5_init n0 sl0 ad0 p l e R s0 m args below meth c Q (opsC Nf Sf) ret r .return_ okV) : ∀ q ∈ tbC_X5_init Nf Sf cal, OKi G A 4 n0 sl0 ad0 p l e R s0 m args below meth c Q (opsC Nf Sf) ret r q.1 q.2 :=
    okc (ok_aload_n (j := 0) X (by decide +kernel) rfl rfl) (
    okc (ok_obj X wl_X5_3 wm_obj wc_obj (rm26 hRm) (by decide +kernel) rfl) (
    okc (ok_aload_n (j := 0) X (by decide +kernel) rfl rfl) (
    okc (ok_new (C := RX2) (T := TX2) (N := 4) (ci := 2) (idx := 9) X (opsC_ok Nf Sf) hNf hSf rfl (by decide) inX2 tyX2_ok (by decide +kernel) wq_X5_9 wt_X2 wi_X2 (by decide +kernel) rfl) (
    okc (ok_dup X (by decide +kernel) rfl) (
    okc (ok_callI (Y := (yX2_init, cX2_init, 1, none)) X hcal hNf hSf md_X2_init rfl rfl wc_X2_init wl_X5_11 wi_X2 wm_X2_init (by decide +kernel) (hRm 1 (by decide)) (by decide +kernel) rfl) (
    okc (ok_putF (ci := 5) (kf := 3) (idx := 12) (C := RX5) (T := TX5) (N := 11) (ty := .object "HatRank$Day") X (opsC_ok Nf Sf) rfl (by decide) inX5 tyX5_ok nmX5 (by decide) wf_X5_12 rfl hmn rfl (fun _ _ _ => rfl) (by decide +kernel) (fun _ => rfl) (fun _ => rfl) (by decide +kernel) rfl) (
    okc (ok_aload_n (j := 0) X (by decide +kernel) rfl rfl) (
    okc (ok_iconst (n := 2) X (by decide +kernel) rfl rfl) (
    okc (ok_anew (idx := 9) X (opsC_ok Nf Sf) hNf hSf wq_X5_9 (by decide +kernel) rfl) (
    okc (ok_dup X (by decide +kernel) rfl) (
    okc (ok_iconst (n := 0) X (by decide +kernel) rfl rfl) (
    okc (ok_new (C := RX2) (T := TX2) (N := 4) (ci := 2) (idx := 9) X (opsC_ok Nf Sf) hNf hSf rfl (by decide) inX2 tyX2_ok (by decide +kernel) wq_X5_9 wt_X2 wi_X2 (by decide +kernel) rfl) (
    okc (ok_dup X (by decide +kernel) rfl) (
    okc (ok_callI (Y := (yX2_init, cX2_init, 1, none)) X hcal hNf hSf md_X2_init rfl rfl wc_X2_init wl_X5_11 wi_X2 wm_X2_init (by decide +kernel) (hRm 1 (by decide)) (by decide +kernel) rfl) (
    okc (ok_aastC X (opsC_ok Nf Sf) (by decide +kernel) rfl) (
    okc (ok_dup X (by decide +kernel) rfl) (
    okc (ok_iconst (n := 1) X (by decide +kernel) rfl rfl) (
    okc (ok_new (C := RX2) (T := TX2) (N := 4) (ci := 2) (idx := 9) X (opsC_ok Nf Sf) hNf hSf rfl (by decide) inX2 tyX2_ok (by decide +kernel) wq_X5_9 wt_X2 wi_X2 (by decide +kernel) rfl) (
    okc (ok_dup X (by decide +kernel) rfl) (
    okc (ok_callI (Y := (yX2_init, cX2_init, 1, none)) X hcal hNf hSf md_X2_init rfl rfl wc_X2_init wl_X5_11 wi_X2 wm_X2_init (by decide +kernel) (hRm 1 (by decide)) (by decide +kernel) rfl) (
    okc (ok_aastC X (opsC_ok Nf Sf) (by decide +kernel) rfl) (
    okc (ok_putF (ci := 5) (kf := 4) (idx := 18) (C := RX5) (T := TX5) (N := 11) (ty := .array (.object "HatRank$Day")) X (opsC_ok Nf Sf) rfl (by decide) inX5 tyX5_ok nmX5 (by decide) wf_X5_18 rfl hmn rfl (fun _ _ _ => rfl) (by decide +kernel) (fun _ => rfl) (fun _ => rfl) (by decide +kernel) rfl) (
    okc (ok_aload_n (j := 0) X (by decide +kernel) rfl rfl) (
    okc (ok_aload_n (j := 1) X (by decide +kernel) rfl rfl) (
    okc (ok_putF (ci := 5) (kf := 0) (idx := 22) (C := RX5) (T := TX5) (N := 11) (ty := .object "HatRank$Town") X (opsC_ok Nf Sf) rfl (by decide) inX5 tyX5_ok nmX5 (by decide) wf_X5_22 rfl hmn rfl (fun _ _ _ => rfl) (by decide +kernel) (fun _ => rfl) (fun _ => rfl) (by decide +kernel) rfl) (
    okc (ok_aload_n (j := 0) X (by decide +kernel) rfl rfl) (
    okc (ok_aload_n (j := 2) X (by decide +kernel) rfl rfl) (
    okc (ok_putF (ci := 5) (kf := 1) (idx := 26) (C := RX5) (T := TX5) (N := 11) (ty := .object "HatRank$Gauge") X (opsC_ok Nf Sf) rfl (by decide) inX5 tyX5_ok nmX5 (by decide) wf_X5_26 rfl hmn rfl (fun _ _ _ => rfl) (by decide +kernel) (fun _ => rfl) (fun _ => rfl) (by decide +kernel) rfl) (
    okc (ok_aload_n (j := 0) X (by decide +kernel) rfl rfl) (
    okc (ok_aload_n (j := 3) X (by decide +kernel) rfl rfl) (
    okc (ok_putF (ci := 5) (kf := 2) (idx := 30) (C := RX5) (T := TX5) (N := 11) (ty := .object "HatRank$Wind") X (opsC_ok Nf Sf) rfl (by decide) inX5 tyX5_ok nmX5 (by decide) wf_X5_30 rfl hmn rfl (fun _ _ _ => rfl) (by decide +kernel) (fun _ => rfl) (fun _ => rfl) (by decide +kernel) rfl) (
    okc (ok_vret hret (by decide +kernel)) (
    okn)))))))))))))))))))))))))))))))))
def FC_X5_init : EnC := fun av h => gd (Nat.ble (ent0 av).length 4) (fcr h.n h.sl 13 71 (ex (tbC_X5_init (h.n + 13) (h.sl + 71) (calC [(17, FC_X2_init)])) rVC [] (fun _ _ _ _ => none) 35 0 (ent av 4) [] h))
set_option maxRecDepth 100000 in
set_option maxHeartbeats 4000000 in
theorem runC_X5_init {l : Launch} {G : Gm} (D : Nat) (hD : 2 ≤ D) : enCOK l G D 36 FC_X5_init := by
  intro av h h' hF
  obtain ⟨D', rfl⟩ : ∃ D', D = D' + 1 := ⟨D - 1, by omega⟩
  rw [md_X5_init]
  refine runC_core (dn := 13) (ds := 71) (plainFor_of_name (by decide +kernel)) rfl hF ?_
  intro A p e R s0 m args below meth c Q ad0 hfr hlo hn hs hmn X hret
  have X : Cx G A RX5 cX5_init 4 p s0 m args c := X
  exact tkC_X5_init (D' := D') X (calC_ok (encC (runC_X2_init D' (by omega)) (ennC))) (fun k hk => ⟨by omega, by omega⟩) hn hs hmn hret
/-! HatRank$Routes <init> -/
def tbC_X6_init (Nf Sf : Nat) (cal : Cal AH) : List (Nat × Ins AH) := [(0, e_aload 0 1), (1, e_obj 4), (4, e_aload 0 5), (5, e_iconst (168) 8), (8, e_newa (opsC Nf Sf) 100 10), (10, e_putR (opsC Nf Sf) 6 2 13), (13, e_aload 0 14), (14, e_aload 1 15), (15, e_putR (opsC Nf Sf) 6 0 18), (18, e_aload 0 19), (19, e_aload 2 20), (20, e_putR (opsC Nf Sf) 6 1 23), (23, e_vret)]
set_option maxRecDepth 100000 in
set_option maxHeartbeats 4000000 in
theorem tkC_X6_init {ad0 : Nat → Nat} {G : Gm} {A : Nat → Prop} {p : Program} {l : Launch} {e : Env} {R : Room} {s0 : State} {m : MethodId} {args : Array Value} {below : List Frame} {meth : Method} {c : Code} {Q : State → Prop} {n0 sl0 : Nat} {ρ : Type} {ret : Option Value → AH → Option ρ} {r : ρ} (X : Cx G A RX6 cX6_init 3 p s0 m args c) {D' Nf Sf : Nat} {cal : Cal AH} (hcal : calOK l G (opsC Nf Sf) D' cal) (hRm : ∀ k, k ≤ 21 → D' + 1 ≤ R.frames ∧ 8 + (k + 11) + 40 * D' ≤ R.locals) (hNf : Nf ≤ n0 + R.cells) (hSf : Sf ≤ sl0 + R.slots) (hmn : meth.name = "<init>") (hret : RetK G A cX6_init n0 sl0 ad0 p l e R s0 m args below meth c Q (opsC Nf Sf) ret r .return_ okV) : ∀ q ∈ tbC_X6_init Nf Sf cal, OKi G A 3 n0 sl0 ad0 p l e R s0 m args below meth c Q (opsC Nf Sf) ret r q.1 q.2 :=
    okc (ok_aload_n (j := 0) X (by decide +kernel) rfl rfl) (
    okc (ok_obj X wl_X6_3 wm_obj wc_obj (rm26 hRm) (by decide +kernel) rfl) (
    okc (ok_aload_n (j := 0) X (by decide +kernel) rfl rfl) (
    okc (ok_sipush (n := 168) X (by decide +kernel) rfl rfl) (
    okc (ok_newa_int X (opsC_ok Nf Sf) hNf hSf (by decide +kernel) rfl) (
    okc (ok_putF (ci := 6) (kf := 2) (idx := 9) (C := RX6) (T := TX6) (N := 3) (ty := .array .int) X (opsC_ok Nf Sf) rfl (by decide) inX6 tyX6_ok nmX6 (by decide) wf_X6_9 rfl hmn rfl (fun _ _ _ => rfl) (by decide +kernel) (fun _ => rfl) (fun _ => rfl) (by decide +kernel) rfl) (
    okc (ok_aload_n (j := 0) X (by decide +kernel) rfl rfl) (
    okc (ok_aload_n (j := 1) X (by decide +kernel) rfl rfl) (
    okc (ok_putF (ci := 6) (kf := 0) (idx := 15) (C := RX6) (T := TX6) (N := 3) (ty := .object "HatRank$Town") X (opsC_ok Nf Sf) rfl (by decide) inX6 tyX6_ok nmX6 (by decide) wf_X6_15 rfl hmn rfl (fun _ _ _ => rfl) (by decide +kernel) (fun _ => rfl) (fun _ => rfl) (by decide +kernel) rfl) (
    okc (ok_aload_n (j := 0) X (by decide +kernel) rfl rfl) (
    okc (ok_aload_n (j := 2) X (by decide +kernel) rfl rfl) (
    okc (ok_putF (ci := 6) (kf := 1) (idx := 19) (C := RX6) (T := TX6) (N := 3) (ty := .object "HatRank$Gauge") X (opsC_ok Nf Sf) rfl (by decide) inX6 tyX6_ok nmX6 (by decide) wf_X6_19 rfl hmn rfl (fun _ _ _ => rfl) (by decide +kernel) (fun _ => rfl) (fun _ => rfl) (by decide +kernel) rfl) (
    okc (ok_vret hret (by decide +kernel)) (
    okn)))))))))))))
def FC_X6_init : EnC := fun av h => gd (Nat.ble (ent0 av).length 3) (fcr h.n h.sl 1 168 (ex (tbC_X6_init (h.n + 1) (h.sl + 168) (calC [])) rVC [] (fun _ _ _ _ => none) 15 0 (ent av 3) [] h))
set_option maxRecDepth 100000 in
set_option maxHeartbeats 4000000 in
theorem runC_X6_init {l : Launch} {G : Gm} (D : Nat) (hD : 1 ≤ D) : enCOK l G D 41 FC_X6_init := by
  intro av h h' hF
  obtain ⟨D', rfl⟩ : ∃ D', D = D' + 1 := ⟨D - 1, by omega⟩
  rw [md_X6_init]
  refine runC_core (dn := 1) (ds := 168) (plainFor_of_name (by decide +kernel)) rfl hF ?_
  intro A p e R s0 m args below meth c Q ad0 hfr hlo hn hs hmn X hret
  have X : Cx G A RX6 cX6_init 3 p s0 m args c := X
  exact tkC_X6_init (D' := D') X (calC_ok (ennC)) (fun k hk => ⟨by omega, by omega⟩) hn hs hmn hret
/-! HatRank$Changes <init> -/
def tbC_X1_init (Nf Sf : Nat) (cal : Cal AH) : List (Nat × Ins AH) := [(0, e_aload 0 1), (1, e_obj 4), (4, e_aload 0 5), (5, e_iconst (40) 7), (7, e_newa (opsC Nf Sf) 100 9), (9, e_putR (opsC Nf Sf) 1 2 12), (12, e_aload 0 13), (13, e_iconst (40) 15), (15, e_newa (opsC Nf Sf) 100 17), (17, e_putR (opsC Nf Sf) 1 3 20), (20, e_aload 0 21), (21, e_iconst (40) 23), (23, e_newa (opsC Nf Sf) 100 25), (25, e_putR (opsC Nf Sf) 1 4 28), (28, e_aload 0 29), (29, e_iconst (40) 31), (31, e_newa (opsC Nf Sf) 100 33), (33, e_putR (opsC Nf Sf) 1 5 36), (36, e_vret)]
set_option maxRecDepth 100000 in
set_option maxHeartbeats 4000000 in
theorem tkC_X1_init {ad0 : Nat → Nat} {G : Gm} {A : Nat → Prop} {p : Program} {l : Launch} {e : Env} {R : Room} {s0 : State} {m : MethodId} {args : Array Value} {below : List Frame} {meth : Method} {c : Code} {Q : State → Prop} {n0 sl0 : Nat} {ρ : Type} {ret : Option Value → AH → Option ρ} {r : ρ} (X : Cx G A RX1 cX1_init 1 p s0 m args c) {D' Nf Sf : Nat} {cal : Cal AH} (hcal : calOK l G (opsC Nf Sf) D' cal) (hRm : ∀ k, k ≤ 21 → D' + 1 ≤ R.frames ∧ 8 + (k + 11) + 40 * D' ≤ R.locals) (hNf : Nf ≤ n0 + R.cells) (hSf : Sf ≤ sl0 + R.slots) (hmn : meth.name = "<init>") (hret : RetK G A cX1_init n0 sl0 ad0 p l e R s0 m args below meth c Q (opsC Nf Sf) ret r .return_ okV) : ∀ q ∈ tbC_X1_init Nf Sf cal, OKi G A 1 n0 sl0 ad0 p l e R s0 m args below meth c Q (opsC Nf Sf) ret r q.1 q.2 :=
    okc (ok_aload_n (j := 0) X (by decide +kernel) rfl rfl) (
    okc (ok_obj X wl_X1_3 wm_obj wc_obj (rm26 hRm) (by decide +kernel) rfl) (
    okc (ok_aload_n (j := 0) X (by decide +kernel) rfl rfl) (
    okc (ok_bipush (n := 40) X (by decide +kernel) rfl rfl) (
    okc (ok_newa_int X (opsC_ok Nf Sf) hNf hSf (by decide +kernel) rfl) (
    okc (ok_putF (ci := 1) (kf := 2) (idx := 11) (C := RX1) (T := TX1) (N := 6) (ty := .array .int) X (opsC_ok Nf Sf) rfl (by decide) inX1 tyX1_ok nmX1 (by decide) wf_X1_11 rfl hmn rfl (fun _ _ _ => rfl) (by decide +kernel) (fun _ => rfl) (fun _ => rfl) (by decide +kernel) rfl) (
    okc (ok_aload_n (j := 0) X (by decide +kernel) rfl rfl) (
    okc (ok_bipush (n := 40) X (by decide +kernel) rfl rfl) (
    okc (ok_newa_int X (opsC_ok Nf Sf) hNf hSf (by decide +kernel) rfl) (
    okc (ok_putF (ci := 1) (kf := 3) (idx := 15) (C := RX1) (T := TX1) (N := 6) (ty := .array .int) X (opsC_ok Nf Sf) rfl (by decide) inX1 tyX1_ok nmX1 (by decide) wf_X1_15 rfl hmn rfl (fun _ _ _ => rfl) (by decide +kernel) (fun _ => rfl) (fun _ => rfl) (by decide +kernel) rfl) (
    okc (ok_aload_n (j := 0) X (by decide +kernel) rfl rfl) (
    okc (ok_bipush (n := 40) X (by decide +kernel) rfl rfl) (
    okc (ok_newa_int X (opsC_ok Nf Sf) hNf hSf (by decide +kernel) rfl) (
    okc (ok_putF (ci := 1) (kf := 4) (idx := 18) (C := RX1) (T := TX1) (N := 6) (ty := .array .int) X (opsC_ok Nf Sf) rfl (by decide) inX1 tyX1_ok nmX1 (by decide) wf_X1_18 rfl hmn rfl (fun _ _ _ => rfl) (by decide +kernel) (fun _ => rfl) (fun _ => rfl) (by decide +kernel) rfl) (
    okc (ok_aload_n (j := 0) X (by decide +kernel) rfl rfl) (
    okc (ok_bipush (n := 40) X (by decide +kernel) rfl rfl) (
    okc (ok_newa_int X (opsC_ok Nf Sf) hNf hSf (by decide +kernel) rfl) (
    okc (ok_putF (ci := 1) (kf := 5) (idx := 21) (C := RX1) (T := TX1) (N := 6) (ty := .array .int) X (opsC_ok Nf Sf) rfl (by decide) inX1 tyX1_ok nmX1 (by decide) wf_X1_21 rfl hmn rfl (fun _ _ _ => rfl) (by decide +kernel) (fun _ => rfl) (fun _ => rfl) (by decide +kernel) rfl) (
    okc (ok_vret hret (by decide +kernel)) (
    okn)))))))))))))))))))
def FC_X1_init : EnC := fun av h => gd (Nat.ble (ent0 av).length 1) (fcr h.n h.sl 4 160 (ex (tbC_X1_init (h.n + 4) (h.sl + 160) (calC [])) rVC [] (fun _ _ _ _ => none) 21 0 (ent av 1) [] h))
set_option maxRecDepth 100000 in
set_option maxHeartbeats 4000000 in
theorem runC_X1_init {l : Launch} {G : Gm} (D : Nat) (hD : 1 ≤ D) : enCOK l G D 12 FC_X1_init := by
  intro av h h' hF
  obtain ⟨D', rfl⟩ : ∃ D', D = D' + 1 := ⟨D - 1, by omega⟩
  rw [md_X1_init]
  refine runC_core (dn := 4) (ds := 160) (plainFor_of_name (by decide +kernel)) rfl hF ?_
  intro A p e R s0 m args below meth c Q ad0 hfr hlo hn hs hmn X hret
  have X : Cx G A RX1 cX1_init 1 p s0 m args c := X
  exact tkC_X1_init (D' := D') X (calC_ok (ennC)) (fun k hk => ⟨by omega, by omega⟩) hn hs hmn hret
/-! HatRank$Bodies <init> -/
def tbC_X0_init (Nf Sf : Nat) (cal : Cal AH) : List (Nat × Ins AH) := [(0, e_aload 0 1), (1, e_obj 4), (4, e_aload 0 5), (5, e_iconst (50) 7), (7, e_newa (opsC Nf Sf) 100 9), (9, e_putR (opsC Nf Sf) 0 2 12), (12, e_aload 0 13), (13, e_iconst (24) 15), (15, e_newa (opsC Nf Sf) 100 17), (17, e_putR (opsC Nf Sf) 0 3 20), (20, e_vret)]
set_option maxRecDepth 100000 in
set_option maxHeartbeats 4000000 in
theorem tkC_X0_init {ad0 : Nat → Nat} {G : Gm} {A : Nat → Prop} {p : Program} {l : Launch} {e : Env} {R : Room} {s0 : State} {m : MethodId} {args : Array Value} {below : List Frame} {meth : Method} {c : Code} {Q : State → Prop} {n0 sl0 : Nat} {ρ : Type} {ret : Option Value → AH → Option ρ} {r : ρ} (X : Cx G A RX0 cX0_init 1 p s0 m args c) {D' Nf Sf : Nat} {cal : Cal AH} (hcal : calOK l G (opsC Nf Sf) D' cal) (hRm : ∀ k, k ≤ 21 → D' + 1 ≤ R.frames ∧ 8 + (k + 11) + 40 * D' ≤ R.locals) (hNf : Nf ≤ n0 + R.cells) (hSf : Sf ≤ sl0 + R.slots) (hmn : meth.name = "<init>") (hret : RetK G A cX0_init n0 sl0 ad0 p l e R s0 m args below meth c Q (opsC Nf Sf) ret r .return_ okV) : ∀ q ∈ tbC_X0_init Nf Sf cal, OKi G A 1 n0 sl0 ad0 p l e R s0 m args below meth c Q (opsC Nf Sf) ret r q.1 q.2 :=
    okc (ok_aload_n (j := 0) X (by decide +kernel) rfl rfl) (
    okc (ok_obj X wl_X0_3 wm_obj wc_obj (rm26 hRm) (by decide +kernel) rfl) (
    okc (ok_aload_n (j := 0) X (by decide +kernel) rfl rfl) (
    okc (ok_bipush (n := 50) X (by decide +kernel) rfl rfl) (
    okc (ok_newa_int X (opsC_ok Nf Sf) hNf hSf (by decide +kernel) rfl) (
    okc (ok_putF (ci := 0) (kf := 2) (idx := 11) (C := RX0) (T := TX0) (N := 5) (ty := .array .int) X (opsC_ok Nf Sf) rfl (by decide) inX0 tyX0_ok nmX0 (by decide) wf_X0_11 rfl hmn rfl (fun _ _ _ => rfl) (by decide +kernel) (fun _ => rfl) (fun _ => rfl) (by decide +kernel) rfl) (
    okc (ok_aload_n (j := 0) X (by decide +kernel) rfl rfl) (
    okc (ok_bipush (n := 24) X (by decide +kernel) rfl rfl) (
    okc (ok_newa_int X (opsC_ok Nf Sf) hNf hSf (by decide +kernel) rfl) (
    okc (ok_putF (ci := 0) (kf := 3) (idx := 15) (C := RX0) (T := TX0) (N := 5) (ty := .array .int) X (opsC_ok Nf Sf) rfl (by decide) inX0 tyX0_ok nmX0 (by decide) wf_X0_15 rfl hmn rfl (fun _ _ _ => rfl) (by decide +kernel) (fun _ => rfl) (fun _ => rfl) (by decide +kernel) rfl) (
    okc (ok_vret hret (by decide +kernel)) (
    okn)))))))))))
def FC_X0_init : EnC := fun av h => gd (Nat.ble (ent0 av).length 1) (fcr h.n h.sl 2 74 (ex (tbC_X0_init (h.n + 2) (h.sl + 74) (calC [])) rVC [] (fun _ _ _ _ => none) 13 0 (ent av 1) [] h))
set_option maxRecDepth 100000 in
set_option maxHeartbeats 4000000 in
theorem runC_X0_init {l : Launch} {G : Gm} (D : Nat) (hD : 1 ≤ D) : enCOK l G D 0 FC_X0_init := by
  intro av h h' hF
  obtain ⟨D', rfl⟩ : ∃ D', D = D' + 1 := ⟨D - 1, by omega⟩
  rw [md_X0_init]
  refine runC_core (dn := 2) (ds := 74) (plainFor_of_name (by decide +kernel)) rfl hF ?_
  intro A p e R s0 m args below meth c Q ad0 hfr hlo hn hs hmn X hret
  have X : Cx G A RX0 cX0_init 1 p s0 m args c := X
  exact tkC_X0_init (D' := D') X (calC_ok (ennC)) (fun k hk => ⟨by omega, by omega⟩) hn hs hmn hret
/-! HatRank$Shelves <init> -/
def tbC_X7_init (Nf Sf : Nat) (cal : Cal AH) : List (Nat × Ins AH) := [(0, e_aload 0 1), (1, e_obj 4), (4, e_aload 0 5), (5, e_iconst (6) 7), (7, e_newa (opsC Nf Sf) 100 9), (9, e_putR (opsC Nf Sf) 7 0 12), (12, e_aload 0 13), (13, e_iconst (6) 15), (15, e_newa (opsC Nf Sf) 100 17), (17, e_putR (opsC Nf Sf) 7 1 20), (20, e_aload 0 21), (21, e_iconst (6) 23), (23, e_newa (opsC Nf Sf) 100 25), (25, e_putR (opsC Nf Sf) 7 2 28), (28, e_aload 0 29), (29, e_iconst (6) 31), (31, e_iconst (60) 33), (33, e_mnew Nf Sf 37), (37, e_putR (opsC Nf Sf) 7 3 40), (40, e_aload 0 41), (41, e_getR (opsC Nf Sf) 7 0 44), (44, e_iconst (-1) 45), (45, e_callSI (opsC Nf Sf) Nf Sf cal 266 2 48), (48, e_vret)]
set_option maxRecDepth 100000 in
set_option maxHeartbeats 4000000 in
theorem tkC_X7_init {ad0 : Nat → Nat} {G : Gm} {A : Nat → Prop} {p : Program} {l : Launch} {e : Env} {R : Room} {s0 : State} {m : MethodId} {args : Array Value} {below : List Frame} {meth : Method} {c : Code} {Q : State → Prop} {n0 sl0 : Nat} {ρ : Type} {ret : Option Value → AH → Option ρ} {r : ρ} (X : Cx G A RX7 cX7_init 1 p s0 m args c) {D' Nf Sf : Nat} {cal : Cal AH} (hcal : calOK l G (opsC Nf Sf) D' cal) (hRm : ∀ k, k ≤ 21 → D' + 1 ≤ R.frames ∧ 8 + (k + 11) + 40 * D' ≤ R.locals) (hNf : Nf ≤ n0 + R.cells) (hSf : Sf ≤ sl0 + R.slots) (hmn : meth.name = "<init>") (hret : RetK G A cX7_init n0 sl0 ad0 p l e R s0 m args below meth c Q (opsC Nf Sf) ret r .return_ okV) : ∀ q ∈ tbC_X7_init Nf Sf cal, OKi G A 1 n0 sl0 ad0 p l e R s0 m args below meth c Q (opsC Nf Sf) ret r q.1 q.2 :=
    okc (ok_aload_n (j := 0) X (by decide +kernel) rfl rfl) (
    okc (ok_obj X wl_X7_3 wm_obj wc_obj (rm26 hRm) (by decide +kernel) rfl) (
    okc (ok_aload_n (j := 0) X (by decide +kernel) rfl rfl) (
    okc (ok_bipush (n := 6) X (by decide +kernel) rfl rfl) (
    okc (ok_newa_int X (opsC_ok Nf Sf) hNf hSf (by decide +kernel) rfl) (
    okc (ok_putF (ci := 7) (kf := 0) (idx := 11) (C := RX7) (T := TX7) (N := 4) (ty := .array .int) X (opsC_ok Nf Sf) rfl (by decide) inX7 tyX7_ok nmX7 (by decide) wf_X7_11 rfl hmn rfl (fun _ _ _ => rfl) (by decide +kernel) (fun _ => rfl) (fun _ => rfl) (by decide +kernel) rfl) (
    okc (ok_aload_n (j := 0) X (by decide +kernel) rfl rfl) (
    okc (ok_bipush (n := 6) X (by decide +kernel) rfl rfl) (
    okc (ok_newa_int X (opsC_ok Nf Sf) hNf hSf (by decide +kernel) rfl) (
    okc (ok_putF (ci := 7) (kf := 1) (idx := 15) (C := RX7) (T := TX7) (N := 4) (ty := .array .int) X (opsC_ok Nf Sf) rfl (by decide) inX7 tyX7_ok nmX7 (by decide) wf_X7_15 rfl hmn rfl (fun _ _ _ => rfl) (by decide +kernel) (fun _ => rfl) (fun _ => rfl) (by decide +kernel) rfl) (
    okc (ok_aload_n (j := 0) X (by decide +kernel) rfl rfl) (
    okc (ok_bipush (n := 6) X (by decide +kernel) rfl rfl) (
    okc (ok_newa_int X (opsC_ok Nf Sf) hNf hSf (by decide +kernel) rfl) (
    okc (ok_putF (ci := 7) (kf := 2) (idx := 18) (C := RX7) (T := TX7) (N := 4) (ty := .array .int) X (opsC_ok Nf Sf) rfl (by decide) inX7 tyX7_ok nmX7 (by decide) wf_X7_18 rfl hmn rfl (fun _ _ _ => rfl) (by decide +kernel) (fun _ => rfl) (fun _ => rfl) (by decide +kernel) rfl) (
    okc (ok_aload_n (j := 0) X (by decide +kernel) rfl rfl) (
    okc (ok_bipush (n := 6) X (by decide +kernel) rfl rfl) (
    okc (ok_bipush (n := 60) X (by decide +kernel) rfl rfl) (
    okc (ok_mnew (idx := 21) X hNf hSf wq_X7_21 (by decide +kernel) rfl) (
    okc (ok_putF (ci := 7) (kf := 3) (idx := 23) (C := RX7) (T := TX7) (N := 4) (ty := .array (.array .long)) X (opsC_ok Nf Sf) rfl (by decide) inX7 tyX7_ok nmX7 (by decide) wf_X7_23 rfl hmn rfl (fun _ _ _ => rfl) (by decide +kernel) (fun _ => rfl) (fun _ => rfl) (by decide +kernel) rfl) (
    okc (ok_aload_n (j := 0) X (by decide +kernel) rfl rfl) (
    okc (ok_getR (ci := 7) (kf := 0) (idx := 11) (C := RX7) (T := TX7) (N := 4) X rfl (by decide) inX7 (by decide) wf_X7_11 (fun _ _ _ => rfl) (by decide +kernel) rfl) (
    okc (ok_iconst (n := -1) X (by decide +kernel) rfl rfl) (
    okc (ok_callSI (Y := (yJ7_fill_53178, cJ7_fill_53178, 4, none)) X hcal hNf hSf md_J7_fill_53178 wc_J7_fill_53178 wl_X7_26 wi_J7 ws_J7_fill_53178 (by decide +kernel) (hRm 4 (by decide)) (by decide +kernel) rfl) (
    okc (ok_vret hret (by decide +kernel)) (
    okn))))))))))))))))))))))))
def FC_X7_init : EnC := fun av h => gd (Nat.ble (ent0 av).length 1) (fcr h.n h.sl 10 384 (ex (tbC_X7_init (h.n + 10) (h.sl + 384) (calC [(266, FC_J7_fill_53178)])) rVC [] (fun _ _ _ _ => none) 26 0 (ent av 1) [] h))
set_option maxRecDepth 100000 in
set_option maxHeartbeats 4000000 in
theorem runC_X7_init {l : Launch} {G : Gm} (D : Nat) (hD : 2 ≤ D) : enCOK l G D 46 FC_X7_init := by
  intro av h h' hF
  obtain ⟨D', rfl⟩ : ∃ D', D = D' + 1 := ⟨D - 1, by omega⟩
  rw [md_X7_init]
  refine runC_core (dn := 10) (ds := 384) (plainFor_of_name (by decide +kernel)) rfl hF ?_
  intro A p e R s0 m args below meth c Q ad0 hfr hlo hn hs hmn X hret
  have X : Cx G A RX7 cX7_init 1 p s0 m args c := X
  exact tkC_X7_init (D' := D') X (calC_ok (encC (runC_J7_fill_53178 D' (by omega)) (ennC))) (fun k hk => ⟨by omega, by omega⟩) hn hs hmn hret
/-! HatRank <init> -/
def tbC_X11_init (Nf Sf : Nat) (cal : Cal AH) : List (Nat × Ins AH) := [(0, e_aload 0 1), (1, e_obj 4), (4, e_aload 0 5), (5, e_new (opsC Nf Sf) 9 8 8), (8, e_dup 9), (9, e_callI (opsC Nf Sf) Nf Sf cal 76 0 9 12), (12, e_putR (opsC Nf Sf) 11 0 15), (15, e_aload 0 16), (16, e_new (opsC Nf Sf) 2 4 19), (19, e_dup 20), (20, e_callI (opsC Nf Sf) Nf Sf cal 17 0 2 23), (23, e_putR (opsC Nf Sf) 11 1 26), (26, e_aload 0 27), (27, e_new (opsC Nf Sf) 8 5 30), (30, e_dup 31), (31, e_callI (opsC Nf Sf) Nf Sf cal 63 0 8 34), (34, e_putR (opsC Nf Sf) 11 2 37), (37, e_aload 0 38), (38, e_new (opsC Nf Sf) 4 4 41), (41, e_dup 42), (42, e_aload 0 43), (43, e_getR (opsC Nf Sf) 11 0 46), (46, e_aload 0 47), (47, e_getR (opsC Nf Sf) 11 2 50), (50, e_callI (opsC Nf Sf) Nf Sf cal 30 2 4 53), (53, e_putR (opsC Nf Sf) 11 3 56), (56, e_aload 0 57), (57, e_new (opsC Nf Sf) 10 4 60), (60, e_dup 61), (61, e_aload 0 62), (62, e_getR (opsC Nf Sf) 11 0 65), (65, e_aload 0 66), (66, e_getR (opsC Nf Sf) 11 3 69), (69, e_callI (opsC Nf Sf) Nf Sf cal 88 2 10 72), (72, e_putR (opsC Nf Sf) 11 4 75), (75, e_aload 0 76), (76, e_new (opsC Nf Sf) 5 11 79), (79, e_dup 80), (80, e_aload 0 81), (81, e_getR (opsC Nf Sf) 11 0 84), (84, e_aload 0 85), (85, e_getR (opsC Nf Sf) 11 3 88), (88, e_aload 0 89), (89, e_getR (opsC Nf Sf) 11 4 92), (92, e_callI (opsC Nf Sf) Nf Sf cal 36 3 5 95), (95, e_putR (opsC Nf Sf) 11 5 98), (98, e_aload 0 99), (99, e_new (opsC Nf Sf) 6 3 102), (102, e_dup 103), (103, e_aload 0 104), (104, e_getR (opsC Nf Sf) 11 0 107), (107, e_aload 0 108), (108, e_getR (opsC Nf Sf) 11 3 111), (111, e_callI (opsC Nf Sf) Nf Sf cal 41 2 6 114), (114, e_putR (opsC Nf Sf) 11 6 117), (117, e_aload 0 118), (118, e_new (opsC Nf Sf) 1 6 121), (121, e_dup 122), (122, e_callI (opsC Nf Sf) Nf Sf cal 12 0 1 125), (125, e_putR (opsC Nf Sf) 11 7 128), (128, e_aload 0 129), (129, e_new (opsC Nf Sf) 0 5 132), (132, e_dup 133), (133, e_callI (opsC Nf Sf) Nf Sf cal 0 0 0 136), (136, e_putR (opsC Nf Sf) 11 8 139), (139, e_aload 0 140), (140, e_new (opsC Nf Sf) 7 4 143), (143, e_dup 144), (144, e_callI (opsC Nf Sf) Nf Sf cal 46 0 7 147), (147, e_putR (opsC Nf Sf) 11 9 150), (150, e_aload 0 151), (151, e_iconst (6) 153), (153, e_newa (opsC Nf Sf) 100 155), (155, e_putR (opsC Nf Sf) 11 10 158), (158, e_aload 0 159), (159, e_new (opsC Nf Sf) 2 4 162), (162, e_dup 163), (163, e_callI (opsC Nf Sf) Nf Sf cal 17 0 2 166), (166, e_putR (opsC Nf Sf) 11 11 169), (169, e_vret)]
set_option maxRecDepth 100000 in
set_option maxHeartbeats 4000000 in
theorem tkC_X11_init {ad0 : Nat → Nat} {G : Gm} {A : Nat → Prop} {p : Program} {l : Launch} {e : Env} {R : Room} {s0 : State} {m : MethodId} {args : Array Value} {below : List Frame} {meth : Method} {c : Code} {Q : State → Prop} {n0 sl0 : Nat} {ρ : Type} {ret : Option Value → AH → Option ρ} {r : ρ} (X : Cx G A RX11 cX11_init 1 p s0 m args c) {D' Nf Sf : Nat} {cal : Cal AH} (hcal : calOK l G (opsC Nf Sf) D' cal) (hRm : ∀ k, k ≤ 21 → D' + 1 ≤ R.frames ∧ 8 + (k + 11) + 40 * D' ≤ R.locals) (hNf : Nf ≤ n0 + R.cells) (hSf : Sf ≤ sl0 + R.slots) (hmn : meth.name = "<init>") (hret : RetK G A cX11_init n0 sl0 ad0 p l e R s0 m args below meth c Q (opsC Nf Sf) ret r .return_ okV) : ∀ q ∈ tbC_X11_init Nf Sf cal, OKi G A 1 n0 sl0 ad0 p l e R s0 m args below meth c Q (opsC Nf Sf) ret r q.1 q.2 :=
    okc (ok_aload_n (j := 0) X (by decide +kernel) rfl rfl) (
    okc (ok_obj X wl_X11_1 wm_obj wc_obj (rm26 hRm) (by decide +kernel) rfl) (
    okc (ok_aload_n (j := 0) X (by decide +kernel) rfl rfl) (
    okc (ok_new (C := RX9) (T := TX9) (N := 8) (ci := 9) (idx := 7) X (opsC_ok Nf Sf) hNf hSf rfl (by decide) inX9 tyX9_ok (by decide +kernel) wq_X11_7 wt_X9 wi_X9 (by decide +kernel) rfl) (
    okc (ok_dup X (by decide +kernel) rfl) (
    okc (ok_callI (Y := (yX9_init, cX9_init, 1, none)) X hcal hNf hSf md_X9_init rfl rfl wc_X9_init wl_X11_9 wi_X9 wm_X9_init (by decide +kernel) (hRm 1 (by decide)) (by decide +kernel) rfl) (
    okc (ok_putF (ci := 11) (kf := 0) (idx := 10) (C := RX11) (T := TX11) (N := 15) (ty := .object "HatRank$Town") X (opsC_ok Nf Sf) rfl (by decide) inX11 tyX11_ok nmX11 (by decide) wf_X11_10 rfl hmn rfl (fun _ _ _ => rfl) (by decide +kernel) (fun _ => rfl) (fun _ => rfl) (by decide +kernel) rfl) (
    okc (ok_aload_n (j := 0) X (by decide +kernel) rfl rfl) (
    okc (ok_new (C := RX2) (T := TX2) (N := 4) (ci := 2) (idx := 16) X (opsC_ok Nf Sf) hNf hSf rfl (by decide) inX2 tyX2_ok (by decide +kernel) wq_X11_16 wt_X2 wi_X2 (by decide +kernel) rfl) (
    okc (ok_dup X (by decide +kernel) rfl) (
    okc (ok_callI (Y := (yX2_init, cX2_init, 1, none)) X hcal hNf hSf md_X2_init rfl rfl wc_X2_init wl_X11_18 wi_X2 wm_X2_init (by decide +kernel) (hRm 1 (by decide)) (by decide +kernel) rfl) (
    okc (ok_putF (ci := 11) (kf := 1) (idx := 19) (C := RX11) (T := TX11) (N := 15) (ty := .object "HatRank$Day") X (opsC_ok Nf Sf) rfl (by decide) inX11 tyX11_ok nmX11 (by decide) wf_X11_19 rfl hmn rfl (fun _ _ _ => rfl) (by decide +kernel) (fun _ => rfl) (fun _ => rfl) (by decide +kernel) rfl) (
    okc (ok_aload_n (j := 0) X (by decide +kernel) rfl rfl) (
    okc (ok_new (C := RX8) (T := TX8) (N := 5) (ci := 8) (idx := 23) X (opsC_ok Nf Sf) hNf hSf rfl (by decide) inX8 tyX8_ok (by decide +kernel) wq_X11_23 wt_X8 wi_X8 (by decide +kernel) rfl) (
    okc (ok_dup X (by decide +kernel) rfl) (
    okc (ok_callI (Y := (yX8_init, cX8_init, 1, none)) X hcal hNf hSf md_X8_init rfl rfl wc_X8_init wl_X11_25 wi_X8 wm_X8_init (by decide +kernel) (hRm 1 (by decide)) (by decide +kernel) rfl) (
    okc (ok_putF (ci := 11) (kf := 2) (idx := 26) (C := RX11) (T := TX11) (N := 15) (ty := .object "HatRank$Tape") X (opsC_ok Nf Sf) rfl (by decide) inX11 tyX11_ok nmX11 (by decide) wf_X11_26 rfl hmn rfl (fun _ _ _ => rfl) (by decide +kernel) (fun _ => rfl) (fun _ => rfl) (by decide +kernel) rfl) (
    okc (ok_aload_n (j := 0) X (by decide +kernel) rfl rfl) (
    okc (ok_new (C := RX4) (T := TX4) (N := 4) (ci := 4) (idx := 30) X (opsC_ok Nf Sf) hNf hSf rfl (by decide) inX4 tyX4_ok (by decide +kernel) wq_X11_30 wt_X4 wi_X4 (by decide +kernel) rfl) (
    okc (ok_dup X (by decide +kernel) rfl) (
    okc (ok_aload_n (j := 0) X (by decide +kernel) rfl rfl) (
    okc (ok_getR (ci := 11) (kf := 0) (idx := 10) (C := RX11) (T := TX11) (N := 15) X rfl (by decide) inX11 (by decide) wf_X11_10 (fun _ _ _ => rfl) (by decide +kernel) rfl) (
    okc (ok_aload_n (j := 0) X (by decide +kernel) rfl rfl) (
    okc (ok_getR (ci := 11) (kf := 2) (idx := 26) (C := RX11) (T := TX11) (N := 15) X rfl (by decide) inX11 (by decide) wf_X11_26 (fun _ _ _ => rfl) (by decide +kernel) rfl) (
    okc (ok_callI (Y := (yX4_init, cX4_init, 3, none)) X hcal hNf hSf md_X4_init rfl rfl wc_X4_init wl_X11_32 wi_X4 wm_X4_init (by decide +kernel) (hRm 3 (by decide)) (by decide +kernel) rfl) (
    okc (ok_putF (ci := 11) (kf := 3) (idx := 35) (C := RX11) (T := TX11) (N := 15) (ty := .object "HatRank$Gauge") X (opsC_ok Nf Sf) rfl (by decide) inX11 tyX11_ok nmX11 (by decide) wf_X11_35 rfl hmn rfl (fun _ _ _ => rfl) (by decide +kernel) (fun _ => rfl) (fun _ => rfl) (by decide +kernel) rfl) (
    okc (ok_aload_n (j := 0) X (by decide +kernel) rfl rfl) (
    okc (ok_new (C := RX10) (T := TX10) (N := 4) (ci := 10) (idx := 39) X (opsC_ok Nf Sf) hNf hSf rfl (by decide) inX10 tyX10_ok (by decide +kernel) wq_X11_39 wt_X10 wi_X10 (by decide +kernel) rfl) (
    okc (ok_dup X (by decide +kernel) rfl) (
    okc (ok_aload_n (j := 0) X (by decide +kernel) rfl rfl) (
    okc (ok_getR (ci := 11) (kf := 0) (idx := 10) (C := RX11) (T := TX11) (N := 15) X rfl (by decide) inX11 (by decide) wf_X11_10 (fun _ _ _ => rfl) (by decide +kernel) rfl) (
    okc (ok_aload_n (j := 0) X (by decide +kernel) rfl rfl) (
    okc (ok_getR (ci := 11) (kf := 3) (idx := 35) (C := RX11) (T := TX11) (N := 15) X rfl (by decide) inX11 (by decide) wf_X11_35 (fun _ _ _ => rfl) (by decide +kernel) rfl) (
    okc (ok_callI (Y := (yX10_init, cX10_init, 3, none)) X hcal hNf hSf md_X10_init rfl rfl wc_X10_init wl_X11_41 wi_X10 wm_X10_init (by decide +kernel) (hRm 3 (by decide)) (by decide +kernel) rfl) (
    okc (ok_putF (ci := 11) (kf := 4) (idx := 44) (C := RX11) (T := TX11) (N := 15) (ty := .object "HatRank$Wind") X (opsC_ok Nf Sf) rfl (by decide) inX11 tyX11_ok nmX11 (by decide) wf_X11_44 rfl hmn rfl (fun _ _ _ => rfl) (by decide +kernel) (fun _ => rfl) (fun _ => rfl) (by decide +kernel) rfl) (
    okc (ok_aload_n (j := 0) X (by decide +kernel) rfl rfl) (
    okc (ok_new (C := RX5) (T := TX5) (N := 11) (ci := 5) (idx := 48) X (opsC_ok Nf Sf) hNf hSf rfl (by decide) inX5 tyX5_ok (by decide +kernel) wq_X11_48 wt_X5 wi_X5 (by decide +kernel) rfl) (
    okc (ok_dup X (by decide +kernel) rfl) (
    okc (ok_aload_n (j := 0) X (by decide +kernel) rfl rfl) (
    okc (ok_getR (ci := 11) (kf := 0) (idx := 10) (C := RX11) (T := TX11) (N := 15) X rfl (by decide) inX11 (by decide) wf_X11_10 (fun _ _ _ => rfl) (by decide +kernel) rfl) (
    okc (ok_aload_n (j := 0) X (by decide +kernel) rfl rfl) (
    okc (ok_getR (ci := 11) (kf := 3) (idx := 35) (C := RX11) (T := TX11) (N := 15) X rfl (by decide) inX11 (by decide) wf_X11_35 (fun _ _ _ => rfl) (by decide +kernel) rfl) (
    okc (ok_aload_n (j := 0) X (by decide +kernel) rfl rfl) (
    okc (ok_getR (ci := 11) (kf := 4) (idx := 44) (C := RX11) (T := TX11) (N := 15) X rfl (by decide) inX11 (by decide) wf_X11_44 (fun _ _ _ => rfl) (by decide +kernel) rfl) (
    okc (ok_callI (Y := (yX5_init, cX5_init, 4, none)) X hcal hNf hSf md_X5_init rfl rfl wc_X5_init wl_X11_50 wi_X5 wm_X5_init (by decide +kernel) (hRm 4 (by decide)) (by decide +kernel) rfl) (
    okc (ok_putF (ci := 11) (kf := 5) (idx := 53) (C := RX11) (T := TX11) (N := 15) (ty := .object "HatRank$Odds") X (opsC_ok Nf Sf) rfl (by decide) inX11 tyX11_ok nmX11 (by decide) wf_X11_53 rfl hmn rfl (fun _ _ _ => rfl) (by decide +kernel) (fun _ => rfl) (fun _ => rfl) (by decide +kernel) rfl) (
    okc (ok_aload_n (j := 0) X (by decide +kernel) rfl rfl) (
    okc (ok_new (C := RX6) (T := TX6) (N := 3) (ci := 6) (idx := 57) X (opsC_ok Nf Sf) hNf hSf rfl (by decide) inX6 tyX6_ok (by decide +kernel) wq_X11_57 wt_X6 wi_X6 (by decide +kernel) rfl) (
    okc (ok_dup X (by decide +kernel) rfl) (
    okc (ok_aload_n (j := 0) X (by decide +kernel) rfl rfl) (
    okc (ok_getR (ci := 11) (kf := 0) (idx := 10) (C := RX11) (T := TX11) (N := 15) X rfl (by decide) inX11 (by decide) wf_X11_10 (fun _ _ _ => rfl) (by decide +kernel) rfl) (
    okc (ok_aload_n (j := 0) X (by decide +kernel) rfl rfl) (
    okc (ok_getR (ci := 11) (kf := 3) (idx := 35) (C := RX11) (T := TX11) (N := 15) X rfl (by decide) inX11 (by decide) wf_X11_35 (fun _ _ _ => rfl) (by decide +kernel) rfl) (
    okc (ok_callI (Y := (yX6_init, cX6_init, 3, none)) X hcal hNf hSf md_X6_init rfl rfl wc_X6_init wl_X11_59 wi_X6 wm_X6_init (by decide +kernel) (hRm 3 (by decide)) (by decide +kernel) rfl) (
    okc (ok_putF (ci := 11) (kf := 6) (idx := 60) (C := RX11) (T := TX11) (N := 15) (ty := .object "HatRank$Routes") X (opsC_ok Nf Sf) rfl (by decide) inX11 tyX11_ok nmX11 (by decide) wf_X11_60 rfl hmn rfl (fun _ _ _ => rfl) (by decide +kernel) (fun _ => rfl) (fun _ => rfl) (by decide +kernel) rfl) (
    okc (ok_aload_n (j := 0) X (by decide +kernel) rfl rfl) (
    okc (ok_new (C := RX1) (T := TX1) (N := 6) (ci := 1) (idx := 64) X (opsC_ok Nf Sf) hNf hSf rfl (by decide) inX1 tyX1_ok (by decide +kernel) wq_X11_64 wt_X1 wi_X1 (by decide +kernel) rfl) (
    okc (ok_dup X (by decide +kernel) rfl) (
    okc (ok_callI (Y := (yX1_init, cX1_init, 1, none)) X hcal hNf hSf md_X1_init rfl rfl wc_X1_init wl_X11_66 wi_X1 wm_X1_init (by decide +kernel) (hRm 1 (by decide)) (by decide +kernel) rfl) (
    okc (ok_putF (ci := 11) (kf := 7) (idx := 67) (C := RX11) (T := TX11) (N := 15) (ty := .object "HatRank$Changes") X (opsC_ok Nf Sf) rfl (by decide) inX11 tyX11_ok nmX11 (by decide) wf_X11_67 rfl hmn rfl (fun _ _ _ => rfl) (by decide +kernel) (fun _ => rfl) (fun _ => rfl) (by decide +kernel) rfl) (
    okc (ok_aload_n (j := 0) X (by decide +kernel) rfl rfl) (
    okc (ok_new (C := RX0) (T := TX0) (N := 5) (ci := 0) (idx := 71) X (opsC_ok Nf Sf) hNf hSf rfl (by decide) inX0 tyX0_ok (by decide +kernel) wq_X11_71 wt_X0 wi_X0 (by decide +kernel) rfl) (
    okc (ok_dup X (by decide +kernel) rfl) (
    okc (ok_callI (Y := (yX0_init, cX0_init, 1, none)) X hcal hNf hSf md_X0_init rfl rfl wc_X0_init wl_X11_73 wi_X0 wm_X0_init (by decide +kernel) (hRm 1 (by decide)) (by decide +kernel) rfl) (
    okc (ok_putF (ci := 11) (kf := 8) (idx := 74) (C := RX11) (T := TX11) (N := 15) (ty := .object "HatRank$Bodies") X (opsC_ok Nf Sf) rfl (by decide) inX11 tyX11_ok nmX11 (by decide) wf_X11_74 rfl hmn rfl (fun _ _ _ => rfl) (by decide +kernel) (fun _ => rfl) (fun _ => rfl) (by decide +kernel) rfl) (
    okc (ok_aload_n (j := 0) X (by decide +kernel) rfl rfl) (
    okc (ok_new (C := RX7) (T := TX7) (N := 4) (ci := 7) (idx := 78) X (opsC_ok Nf Sf) hNf hSf rfl (by decide) inX7 tyX7_ok (by decide +kernel) wq_X11_78 wt_X7 wi_X7 (by decide +kernel) rfl) (
    okc (ok_dup X (by decide +kernel) rfl) (
    okc (ok_callI (Y := (yX7_init, cX7_init, 1, none)) X hcal hNf hSf md_X7_init rfl rfl wc_X7_init wl_X11_80 wi_X7 wm_X7_init (by decide +kernel) (hRm 1 (by decide)) (by decide +kernel) rfl) (
    okc (ok_putF (ci := 11) (kf := 9) (idx := 81) (C := RX11) (T := TX11) (N := 15) (ty := .object "HatRank$Shelves") X (opsC_ok Nf Sf) rfl (by decide) inX11 tyX11_ok nmX11 (by decide) wf_X11_81 rfl hmn rfl (fun _ _ _ => rfl) (by decide +kernel) (fun _ => rfl) (fun _ => rfl) (by decide +kernel) rfl) (
    okc (ok_aload_n (j := 0) X (by decide +kernel) rfl rfl) (
    okc (ok_bipush (n := 6) X (by decide +kernel) rfl rfl) (
    okc (ok_newa_int X (opsC_ok Nf Sf) hNf hSf (by decide +kernel) rfl) (
    okc (ok_putF (ci := 11) (kf := 10) (idx := 85) (C := RX11) (T := TX11) (N := 15) (ty := .array .int) X (opsC_ok Nf Sf) rfl (by decide) inX11 tyX11_ok nmX11 (by decide) wf_X11_85 rfl hmn rfl (fun _ _ _ => rfl) (by decide +kernel) (fun _ => rfl) (fun _ => rfl) (by decide +kernel) rfl) (
    okc (ok_aload_n (j := 0) X (by decide +kernel) rfl rfl) (
    okc (ok_new (C := RX2) (T := TX2) (N := 4) (ci := 2) (idx := 16) X (opsC_ok Nf Sf) hNf hSf rfl (by decide) inX2 tyX2_ok (by decide +kernel) wq_X11_16 wt_X2 wi_X2 (by decide +kernel) rfl) (
    okc (ok_dup X (by decide +kernel) rfl) (
    okc (ok_callI (Y := (yX2_init, cX2_init, 1, none)) X hcal hNf hSf md_X2_init rfl rfl wc_X2_init wl_X11_18 wi_X2 wm_X2_init (by decide +kernel) (hRm 1 (by decide)) (by decide +kernel) rfl) (
    okc (ok_putF (ci := 11) (kf := 11) (idx := 89) (C := RX11) (T := TX11) (N := 15) (ty := .object "HatRank$Day") X (opsC_ok Nf Sf) rfl (by decide) inX11 tyX11_ok nmX11 (by decide) wf_X11_89 rfl hmn rfl (fun _ _ _ => rfl) (by decide +kernel) (fun _ => rfl) (fun _ => rfl) (by decide +kernel) rfl) (
    okc (ok_vret hret (by decide +kernel)) (
    okn))))))))))))))))))))))))))))))))))))))))))))))))))))))))))))))))))))))))))))))))
def FC_X11_init : EnC := fun av h => gd (Nat.ble (ent0 av).length 1) (fcr h.n h.sl 73 4097 (ex (tbC_X11_init (h.n + 73) (h.sl + 4097) (calC [(76, FC_X9_init), (17, FC_X2_init), (63, FC_X8_init), (30, FC_X4_init), (88, FC_X10_init), (36, FC_X5_init), (41, FC_X6_init), (12, FC_X1_init), (0, FC_X0_init), (46, FC_X7_init)])) rVC [] (fun _ _ _ _ => none) 82 0 (ent av 1) [] h))
set_option maxRecDepth 100000 in
set_option maxHeartbeats 4000000 in
theorem runC_X11_init {l : Launch} {G : Gm} (D : Nat) (hD : 3 ≤ D) : enCOK l G D 99 FC_X11_init := by
  intro av h h' hF
  obtain ⟨D', rfl⟩ : ∃ D', D = D' + 1 := ⟨D - 1, by omega⟩
  rw [md_X11_init]
  refine runC_core (dn := 73) (ds := 4097) (plainFor_of_name (by decide +kernel)) rfl hF ?_
  intro A p e R s0 m args below meth c Q ad0 hfr hlo hn hs hmn X hret
  have X : Cx G A RX11 cX11_init 1 p s0 m args c := X
  exact tkC_X11_init (D' := D') X (calC_ok (encC (runC_X9_init D' (by omega)) (encC (runC_X2_init D' (by omega)) (encC (runC_X8_init D' (by omega)) (encC (runC_X4_init D' (by omega)) (encC (runC_X10_init D' (by omega)) (encC (runC_X5_init D' (by omega)) (encC (runC_X6_init D' (by omega)) (encC (runC_X1_init D' (by omega)) (encC (runC_X0_init D' (by omega)) (encC (runC_X7_init D' (by omega)) (ennC)))))))))))) (fun k hk => ⟨by omega, by omega⟩) hn hs hmn hret
/-! HatRankModel <init> -/
def tbC_X12_init (Nf Sf : Nat) (cal : Cal AH) : List (Nat × Ins AH) := [(0, e_aload 0 1), (1, e_obj 4), (4, e_aload 0 5), (5, e_iconst (24) 7), (7, e_newa (opsC Nf Sf) 100 9), (9, e_dup 10), (10, e_iconst (0) 11), (11, e_iconst (3) 12), (12, e_astC (opsC Nf Sf) 13), (13, e_dup 14), (14, e_iconst (1) 15), (15, e_iconst (3) 16), (16, e_astC (opsC Nf Sf) 17), (17, e_dup 18), (18, e_iconst (2) 19), (19, e_iconst (3) 20), (20, e_astC (opsC Nf Sf) 21), (21, e_dup 22), (22, e_iconst (3) 23), (23, e_iconst (3) 24), (24, e_astC (opsC Nf Sf) 25), (25, e_dup 26), (26, e_iconst (4) 27), (27, e_iconst (3) 28), (28, e_astC (opsC Nf Sf) 29), (29, e_dup 30), (30, e_iconst (5) 31), (31, e_iconst (3) 32), (32, e_astC (opsC Nf Sf) 33), (33, e_dup 34), (34, e_iconst (6) 36), (36, e_iconst (3) 37), (37, e_astC (opsC Nf Sf) 38), (38, e_dup 39), (39, e_iconst (7) 41), (41, e_iconst (3) 42), (42, e_astC (opsC Nf Sf) 43), (43, e_dup 44), (44, e_iconst (8) 46), (46, e_iconst (3) 47), (47, e_astC (opsC Nf Sf) 48), (48, e_dup 49), (49, e_iconst (9) 51), (51, e_iconst (3) 52), (52, e_astC (opsC Nf Sf) 53), (53, e_dup 54), (54, e_iconst (10) 56), (56, e_iconst (3) 57), (57, e_astC (opsC Nf Sf) 58), (58, e_dup 59), (59, e_iconst (11) 61), (61, e_iconst (3) 62), (62, e_astC (opsC Nf Sf) 63), (63, e_dup 64), (64, e_iconst (12) 66), (66, e_iconst (3) 67), (67, e_astC (opsC Nf Sf) 68), (68, e_dup 69), (69, e_iconst (13) 71), (71, e_iconst (3) 72), (72, e_astC (opsC Nf Sf) 73), (73, e_dup 74), (74, e_iconst (14) 76), (76, e_iconst (3) 77), (77, e_astC (opsC Nf Sf) 78), (78, e_dup 79), (79, e_iconst (15) 81), (81, e_iconst (3) 82), (82, e_astC (opsC Nf Sf) 83), (83, e_dup 84), (84, e_iconst (16) 86), (86, e_iconst (3) 87), (87, e_astC (opsC Nf Sf) 88), (88, e_dup 89), (89, e_iconst (17) 91), (91, e_iconst (3) 92), (92, e_astC (opsC Nf Sf) 93), (93, e_dup 94), (94, e_iconst (18) 96), (96, e_iconst (3) 97), (97, e_astC (opsC Nf Sf) 98), (98, e_dup 99), (99, e_iconst (19) 101), (101, e_iconst (3) 102), (102, e_astC (opsC Nf Sf) 103), (103, e_dup 104), (104, e_iconst (20) 106), (106, e_iconst (3) 107), (107, e_astC (opsC Nf Sf) 108), (108, e_dup 109), (109, e_iconst (21) 111), (111, e_iconst (3) 112), (112, e_astC (opsC Nf Sf) 113), (113, e_dup 114), (114, e_iconst (22) 116), (116, e_iconst (3) 117), (117, e_astC (opsC Nf Sf) 118), (118, e_dup 119), (119, e_iconst (23) 121), (121, e_iconst (3) 122), (122, e_astC (opsC Nf Sf) 123), (123, e_putR (opsC Nf Sf) 12 2 126), (126, e_aload 0 127), (127, e_iconst (7) 129), (129, e_newa (opsC Nf Sf) 100 131), (131, e_putR (opsC Nf Sf) 12 5 134), (134, e_aload 0 135), (135, e_iconst (7) 137), (137, e_newa (opsC Nf Sf) 100 139), (139, e_putR (opsC Nf Sf) 12 6 142), (142, e_aload 0 143), (143, e_iconst (7) 145), (145, e_newa (opsC Nf Sf) 100 147), (147, e_putR (opsC Nf Sf) 12 7 150), (150, e_aload 0 151), (151, e_iconst (12) 153), (153, e_newa (opsC Nf Sf) 100 155), (155, e_putR (opsC Nf Sf) 12 9 158), (158, e_aload 0 159), (159, e_iconst (12) 161), (161, e_newa (opsC Nf Sf) 100 163), (163, e_putR (opsC Nf Sf) 12 10 166), (166, e_aload 0 167), (167, e_iconst (6) 169), (169, e_newa (opsC Nf Sf) 100 171), (171, e_putR (opsC Nf Sf) 12 12 174), (174, e_aload 0 175), (175, e_iconst (6) 177), (177, e_newa (opsC Nf Sf) 100 179), (179, e_putR (opsC Nf Sf) 12 13 182), (182, e_aload 0 183), (183, e_iconst (6) 185), (185, e_newa (opsC Nf Sf) 100 187), (187, e_putR (opsC Nf Sf) 12 14 190), (190, e_aload 0 191), (191, e_iconst (6) 193), (193, e_newa (opsC Nf Sf) 100 195), (195, e_putR (opsC Nf Sf) 12 15 198), (198, e_aload 0 199), (199, e_iconst (40) 201), (201, e_newa (opsC Nf Sf) 100 203), (203, e_putR (opsC Nf Sf) 12 18 206), (206, e_aload 0 207), (207, e_iconst (40) 209), (209, e_newa (opsC Nf Sf) 100 211), (211, e_putR (opsC Nf Sf) 12 19 214), (214, e_aload 0 215), (215, e_iconst (40) 217), (217, e_newa (opsC Nf Sf) 100 219), (219, e_putR (opsC Nf Sf) 12 20 222), (222, e_aload 0 223), (223, e_iconst (40) 225), (225, e_newa (opsC Nf Sf) 100 227), (227, e_putR (opsC Nf Sf) 12 21 230), (230, e_aload 0 231), (231, e_iconst (120) 233), (233, e_newa (opsC Nf Sf) 102 235), (235, e_putR (opsC Nf Sf) 12 22 238), (238, e_aload 0 239), (239, e_iconst (260) 242), (242, e_newa (opsC Nf Sf) 102 244), (244, e_putR (opsC Nf Sf) 12 28 247), (247, e_aload 0 248), (248, e_iconst (260) 251), (251, e_newa (opsC Nf Sf) 100 253), (253, e_putR (opsC Nf Sf) 12 29 256), (256, e_aload 0 257), (257, e_iconst (2) 258), (258, e_newa (opsC Nf Sf) 100 260), (260, e_putR (opsC Nf Sf) 12 30 263), (263, e_aload 0 264), (264, e_iconst (122) 266), (266, e_newa (opsC Nf Sf) 103 268), (268, e_putR (opsC Nf Sf) 12 31 271), (271, e_aload 0 272), (272, e_iconst (122) 274), (274, e_newa (opsC Nf Sf) 103 276), (276, e_putR (opsC Nf Sf) 12 32 279), (279, e_aload 0 280), (280, e_iconst (6) 282), (282, e_newa (opsC Nf Sf) 100 284), (284, e_putR (opsC Nf Sf) 12 33 287), (287, e_aload 0 288), (288, e_iconst (130) 291), (291, e_newa (opsC Nf Sf) 100 293), (293, e_putR (opsC Nf Sf) 12 34 296), (296, e_aload 0 297), (297, e_iconst (6) 299), (299, e_newa (opsC Nf Sf) 100 301), (301, e_putR (opsC Nf Sf) 12 36 304), (304, e_aload 0 305), (305, e_iconst (6) 307), (307, e_newa (opsC Nf Sf) 100 309), (309, e_putR (opsC Nf Sf) 12 37 312), (312, e_aload 0 313), (313, e_iconst (7) 315), (315, e_newa (opsC Nf Sf) 100 317), (317, e_putR (opsC Nf Sf) 12 38 320), (320, e_aload 0 321), (321, e_iconst (6) 323), (323, e_newa (opsC Nf Sf) 100 325), (325, e_putR (opsC Nf Sf) 12 39 328), (328, e_aload 0 329), (329, e_iconst (175) 332), (332, e_newa (opsC Nf Sf) 100 334), (334, e_putR (opsC Nf Sf) 12 41 337), (337, e_aload 0 338), (338, e_iconst (78) 340), (340, e_newa (opsC Nf Sf) 100 342), (342, e_putR (opsC Nf Sf) 12 42 345), (345, e_aload 0 346), (346, e_iconst (91) 348), (348, e_newa (opsC Nf Sf) 100 350), (350, e_putR (opsC Nf Sf) 12 43 353), (353, e_aload 0 354), (354, e_iconst (6) 356), (356, e_newa (opsC Nf Sf) 100 358), (358, e_putR (opsC Nf Sf) 12 52 361), (361, e_aload 0 362), (362, e_iconst (6) 364), (364, e_newa (opsC Nf Sf) 100 366), (366, e_putR (opsC Nf Sf) 12 53 369), (369, e_aload 0 370), (370, e_iconst (7) 372), (372, e_newa (opsC Nf Sf) 100 374), (374, e_putR (opsC Nf Sf) 12 54 377), (377, e_aload 0 378), (378, e_iconst (50) 380), (380, e_newa (opsC Nf Sf) 100 382), (382, e_putR (opsC Nf Sf) 12 56 385), (385, e_aload 0 386), (386, e_iconst (24) 388), (388, e_newa (opsC Nf Sf) 100 390), (390, e_putR (opsC Nf Sf) 12 58 393), (393, e_aload 0 394), (394, e_iconst (6) 396), (396, e_newa (opsC Nf Sf) 100 398), (398, e_dup 399), (399, e_iconst (0) 400), (400, e_iconst (-1) 401), (401, e_astC (opsC Nf Sf) 402), (402, e_dup 403), (403, e_iconst (1) 404), (404, e_iconst (-1) 405), (405, e_astC (opsC Nf Sf) 406), (406, e_dup 407), (407, e_iconst (2) 408), (408, e_iconst (-1) 409), (409, e_astC (opsC Nf Sf) 410), (410, e_dup 411), (411, e_iconst (3) 412), (412, e_iconst (-1) 413), (413, e_astC (opsC Nf Sf) 414), (414, e_dup 415), (415, e_iconst (4) 416), (416, e_iconst (-1) 417), (417, e_astC (opsC Nf Sf) 418), (418, e_dup 419), (419, e_iconst (5) 420), (420, e_iconst (-1) 421), (421, e_astC (opsC Nf Sf) 422), (422, e_putR (opsC Nf Sf) 12 59 425), (425, e_aload 0 426), (426, e_iconst (6) 428), (428, e_newa (opsC Nf Sf) 100 430), (430, e_putR (opsC Nf Sf) 12 60 433), (433, e_aload 0 434), (434, e_iconst (360) 437), (437, e_newa (opsC Nf Sf) 101 439), (439, e_putR (opsC Nf Sf) 12 61 442), (442, e_aload 0 443), (443, e_iconst (60) 445), (445, e_newa (opsC Nf Sf) 101 447), (447, e_putR (opsC Nf Sf) 12 62 450), (450, e_vret)]
set_option maxRecDepth 100000 in
set_option maxHeartbeats 4000000 in
theorem tkC_X12_init {ad0 : Nat → Nat} {G : Gm} {A : Nat → Prop} {p : Program} {l : Launch} {e : Env} {R : Room} {s0 : State} {m : MethodId} {args : Array Value} {below : List Frame} {meth : Method} {c : Code} {Q : State → Prop} {n0 sl0 : Nat} {ρ : Type} {ret : Option Value → AH → Option ρ} {r : ρ} (X : Cx G A RX12 cX12_init 1 p s0 m args c) {D' Nf Sf : Nat} {cal : Cal AH} (hcal : calOK l G (opsC Nf Sf) D' cal) (hRm : ∀ k, k ≤ 21 → D' + 1 ≤ R.frames ∧ 8 + (k + 11) + 40 * D' ≤ R.locals) (hNf : Nf ≤ n0 + R.cells) (hSf : Sf ≤ sl0 + R.slots) (hmn : meth.name = "<init>") (hret : RetK G A cX12_init n0 sl0 ad0 p l e R s0 m args below meth c Q (opsC Nf Sf) ret r .return_ okV) : ∀ q ∈ tbC_X12_init Nf Sf cal, OKi G A 1 n0 sl0 ad0 p l e R s0 m args below meth c Q (opsC Nf Sf) ret r q.1 q.2 :=
    okc (ok_aload_n (j := 0) X (by decide +kernel) rfl rfl) (
    okc (ok_obj X wl_X12_1 wm_obj wc_obj (rm26 hRm) (by decide +kernel) rfl) (
    okc (ok_aload_n (j := 0) X (by decide +kernel) rfl rfl) (
    okc (ok_bipush (n := 24) X (by decide +kernel) rfl rfl) (
    okc (ok_newa_int X (opsC_ok Nf Sf) hNf hSf (by decide +kernel) rfl) (
    okc (ok_dup X (by decide +kernel) rfl) (
    okc (ok_iconst (n := 0) X (by decide +kernel) rfl rfl) (
    okc (ok_iconst (n := 3) X (by decide +kernel) rfl rfl) (
    okc (ok_iastC X (opsC_ok Nf Sf) (by decide +kernel) rfl) (
    okc (ok_dup X (by decide +kernel) rfl) (
    okc (ok_iconst (n := 1) X (by decide +kernel) rfl rfl) (
    okc (ok_iconst (n := 3) X (by decide +kernel) rfl rfl) (
    okc (ok_iastC X (opsC_ok Nf Sf) (by decide +kernel) rfl) (
    okc (ok_dup X (by decide +kernel) rfl) (
    okc (ok_iconst (n := 2) X (by decide +kernel) rfl rfl) (
    okc (ok_iconst (n := 3) X (by decide +kernel) rfl rfl) (
    okc (ok_iastC X (opsC_ok Nf Sf) (by decide +kernel) rfl) (
    okc (ok_dup X (by decide +kernel) rfl) (
    okc (ok_iconst (n := 3) X (by decide +kernel) rfl rfl) (
    okc (ok_iconst (n := 3) X (by decide +kernel) rfl rfl) (
    okc (ok_iastC X (opsC_ok Nf Sf) (by decide +kernel) rfl) (
    okc (ok_dup X (by decide +kernel) rfl) (
    okc (ok_iconst (n := 4) X (by decide +kernel) rfl rfl) (
    okc (ok_iconst (n := 3) X (by decide +kernel) rfl rfl) (
    okc (ok_iastC X (opsC_ok Nf Sf) (by decide +kernel) rfl) (
    okc (ok_dup X (by decide +kernel) rfl) (
    okc (ok_iconst (n := 5) X (by decide +kernel) rfl rfl) (
    okc (ok_iconst (n := 3) X (by decide +kernel) rfl rfl) (
    okc (ok_iastC X (opsC_ok Nf Sf) (by decide +kernel) rfl) (
    okc (ok_dup X (by decide +kernel) rfl) (
    okc (ok_bipush (n := 6) X (by decide +kernel) rfl rfl) (
    okc (ok_iconst (n := 3) X (by decide +kernel) rfl rfl) (
    okc (ok_iastC X (opsC_ok Nf Sf) (by decide +kernel) rfl) (
    okc (ok_dup X (by decide +kernel) rfl) (
    okc (ok_bipush (n := 7) X (by decide +kernel) rfl rfl) (
    okc (ok_iconst (n := 3) X (by decide +kernel) rfl rfl) (
    okc (ok_iastC X (opsC_ok Nf Sf) (by decide +kernel) rfl) (
    okc (ok_dup X (by decide +kernel) rfl) (
    okc (ok_bipush (n := 8) X (by decide +kernel) rfl rfl) (
    okc (ok_iconst (n := 3) X (by decide +kernel) rfl rfl) (
    okc (ok_iastC X (opsC_ok Nf Sf) (by decide +kernel) rfl) (
    okc (ok_dup X (by decide +kernel) rfl) (
    okc (ok_bipush (n := 9) X (by decide +kernel) rfl rfl) (
    okc (ok_iconst (n := 3) X (by decide +kernel) rfl rfl) (
    okc (ok_iastC X (opsC_ok Nf Sf) (by decide +kernel) rfl) (
    okc (ok_dup X (by decide +kernel) rfl) (
    okc (ok_bipush (n := 10) X (by decide +kernel) rfl rfl) (
    okc (ok_iconst (n := 3) X (by decide +kernel) rfl rfl) (
    okc (ok_iastC X (opsC_ok Nf Sf) (by decide +kernel) rfl) (
    okc (ok_dup X (by decide +kernel) rfl) (
    okc (ok_bipush (n := 11) X (by decide +kernel) rfl rfl) (
    okc (ok_iconst (n := 3) X (by decide +kernel) rfl rfl) (
    okc (ok_iastC X (opsC_ok Nf Sf) (by decide +kernel) rfl) (
    okc (ok_dup X (by decide +kernel) rfl) (
    okc (ok_bipush (n := 12) X (by decide +kernel) rfl rfl) (
    okc (ok_iconst (n := 3) X (by decide +kernel) rfl rfl) (
    okc (ok_iastC X (opsC_ok Nf Sf) (by decide +kernel) rfl) (
    okc (ok_dup X (by decide +kernel) rfl) (
    okc (ok_bipush (n := 13) X (by decide +kernel) rfl rfl) (
    okc (ok_iconst (n := 3) X (by decide +kernel) rfl rfl) (
    okc (ok_iastC X (opsC_ok Nf Sf) (by decide +kernel) rfl) (
    okc (ok_dup X (by decide +kernel) rfl) (
    okc (ok_bipush (n := 14) X (by decide +kernel) rfl rfl) (
    okc (ok_iconst (n := 3) X (by decide +kernel) rfl rfl) (
    okc (ok_iastC X (opsC_ok Nf Sf) (by decide +kernel) rfl) (
    okc (ok_dup X (by decide +kernel) rfl) (
    okc (ok_bipush (n := 15) X (by decide +kernel) rfl rfl) (
    okc (ok_iconst (n := 3) X (by decide +kernel) rfl rfl) (
    okc (ok_iastC X (opsC_ok Nf Sf) (by decide +kernel) rfl) (
    okc (ok_dup X (by decide +kernel) rfl) (
    okc (ok_bipush (n := 16) X (by decide +kernel) rfl rfl) (
    okc (ok_iconst (n := 3) X (by decide +kernel) rfl rfl) (
    okc (ok_iastC X (opsC_ok Nf Sf) (by decide +kernel) rfl) (
    okc (ok_dup X (by decide +kernel) rfl) (
    okc (ok_bipush (n := 17) X (by decide +kernel) rfl rfl) (
    okc (ok_iconst (n := 3) X (by decide +kernel) rfl rfl) (
    okc (ok_iastC X (opsC_ok Nf Sf) (by decide +kernel) rfl) (
    okc (ok_dup X (by decide +kernel) rfl) (
    okc (ok_bipush (n := 18) X (by decide +kernel) rfl rfl) (
    okc (ok_iconst (n := 3) X (by decide +kernel) rfl rfl) (
    okc (ok_iastC X (opsC_ok Nf Sf) (by decide +kernel) rfl) (
    okc (ok_dup X (by decide +kernel) rfl) (
    okc (ok_bipush (n := 19) X (by decide +kernel) rfl rfl) (
    okc (ok_iconst (n := 3) X (by decide +kernel) rfl rfl) (
    okc (ok_iastC X (opsC_ok Nf Sf) (by decide +kernel) rfl) (
    okc (ok_dup X (by decide +kernel) rfl) (
    okc (ok_bipush (n := 20) X (by decide +kernel) rfl rfl) (
    okc (ok_iconst (n := 3) X (by decide +kernel) rfl rfl) (
    okc (ok_iastC X (opsC_ok Nf Sf) (by decide +kernel) rfl) (
    okc (ok_dup X (by decide +kernel) rfl) (
    okc (ok_bipush (n := 21) X (by decide +kernel) rfl rfl) (
    okc (ok_iconst (n := 3) X (by decide +kernel) rfl rfl) (
    okc (ok_iastC X (opsC_ok Nf Sf) (by decide +kernel) rfl) (
    okc (ok_dup X (by decide +kernel) rfl) (
    okc (ok_bipush (n := 22) X (by decide +kernel) rfl rfl) (
    okc (ok_iconst (n := 3) X (by decide +kernel) rfl rfl) (
    okc (ok_iastC X (opsC_ok Nf Sf) (by decide +kernel) rfl) (
    okc (ok_dup X (by decide +kernel) rfl) (
    okc (ok_bipush (n := 23) X (by decide +kernel) rfl rfl) (
    okc (ok_iconst (n := 3) X (by decide +kernel) rfl rfl) (
    okc (ok_iastC X (opsC_ok Nf Sf) (by decide +kernel) rfl) (
    okc (ok_putF (ci := 12) (kf := 2) (idx := 7) (C := RX12) (T := TX12) (N := 63) (ty := .array .int) X (opsC_ok Nf Sf) rfl (by decide) inX12 tyX12_ok nmX12 (by decide) wf_X12_7 rfl hmn rfl (fun _ _ _ => rfl) (by decide +kernel) (fun _ => rfl) (fun _ => rfl) (by decide +kernel) rfl) (
    okc (ok_aload_n (j := 0) X (by decide +kernel) rfl rfl) (
    okc (ok_bipush (n := 7) X (by decide +kernel) rfl rfl) (
    okc (ok_newa_int X (opsC_ok Nf Sf) hNf hSf (by decide +kernel) rfl) (
    okc (ok_putF (ci := 12) (kf := 5) (idx := 13) (C := RX12) (T := TX12) (N := 63) (ty := .array .int) X (opsC_ok Nf Sf) rfl (by decide) inX12 tyX12_ok nmX12 (by decide) wf_X12_13 rfl hmn rfl (fun _ _ _ => rfl) (by decide +kernel) (fun _ => rfl) (fun _ => rfl) (by decide +kernel) rfl) (
    okc (ok_aload_n (j := 0) X (by decide +kernel) rfl rfl) (
    okc (ok_bipush (n := 7) X (by decide +kernel) rfl rfl) (
    okc (ok_newa_int X (opsC_ok Nf Sf) hNf hSf (by decide +kernel) rfl) (
    okc (ok_putF (ci := 12) (kf := 6) (idx := 16) (C := RX12) (T := TX12) (N := 63) (ty := .array .int) X (opsC_ok Nf Sf) rfl (by decide) inX12 tyX12_ok nmX12 (by decide) wf_X12_16 rfl hmn rfl (fun _ _ _ => rfl) (by decide +kernel) (fun _ => rfl) (fun _ => rfl) (by decide +kernel) rfl) (
    okc (ok_aload_n (j := 0) X (by decide +kernel) rfl rfl) (
    okc (ok_bipush (n := 7) X (by decide +kernel) rfl rfl) (
    okc (ok_newa_int X (opsC_ok Nf Sf) hNf hSf (by decide +kernel) rfl) (
    okc (ok_putF (ci := 12) (kf := 7) (idx := 19) (C := RX12) (T := TX12) (N := 63) (ty := .array .int) X (opsC_ok Nf Sf) rfl (by decide) inX12 tyX12_ok nmX12 (by decide) wf_X12_19 rfl hmn rfl (fun _ _ _ => rfl) (by decide +kernel) (fun _ => rfl) (fun _ => rfl) (by decide +kernel) rfl) (
    okc (ok_aload_n (j := 0) X (by decide +kernel) rfl rfl) (
    okc (ok_bipush (n := 12) X (by decide +kernel) rfl rfl) (
    okc (ok_newa_int X (opsC_ok Nf Sf) hNf hSf (by decide +kernel) rfl) (
    okc (ok_putF (ci := 12) (kf := 9) (idx := 22) (C := RX12) (T := TX12) (N := 63) (ty := .array .int) X (opsC_ok Nf Sf) rfl (by decide) inX12 tyX12_ok nmX12 (by decide) wf_X12_22 rfl hmn rfl (fun _ _ _ => rfl) (by decide +kernel) (fun _ => rfl) (fun _ => rfl) (by decide +kernel) rfl) (
    okc (ok_aload_n (j := 0) X (by decide +kernel) rfl rfl) (
    okc (ok_bipush (n := 12) X (by decide +kernel) rfl rfl) (
    okc (ok_newa_int X (opsC_ok Nf Sf) hNf hSf (by decide +kernel) rfl) (
    okc (ok_putF (ci := 12) (kf := 10) (idx := 25) (C := RX12) (T := TX12) (N := 63) (ty := .array .int) X (opsC_ok Nf Sf) rfl (by decide) inX12 tyX12_ok nmX12 (by decide) wf_X12_25 rfl hmn rfl (fun _ _ _ => rfl) (by decide +kernel) (fun _ => rfl) (fun _ => rfl) (by decide +kernel) rfl) (
    okc (ok_aload_n (j := 0) X (by decide +kernel) rfl rfl) (
    okc (ok_bipush (n := 6) X (by decide +kernel) rfl rfl) (
    okc (ok_newa_int X (opsC_ok Nf Sf) hNf hSf (by decide +kernel) rfl) (
    okc (ok_putF (ci := 12) (kf := 12) (idx := 28) (C := RX12) (T := TX12) (N := 63) (ty := .array .int) X (opsC_ok Nf Sf) rfl (by decide) inX12 tyX12_ok nmX12 (by decide) wf_X12_28 rfl hmn rfl (fun _ _ _ => rfl) (by decide +kernel) (fun _ => rfl) (fun _ => rfl) (by decide +kernel) rfl) (
    okc (ok_aload_n (j := 0) X (by decide +kernel) rfl rfl) (
    okc (ok_bipush (n := 6) X (by decide +kernel) rfl rfl) (
    okc (ok_newa_int X (opsC_ok Nf Sf) hNf hSf (by decide +kernel) rfl) (
    okc (ok_putF (ci := 12) (kf := 13) (idx := 31) (C := RX12) (T := TX12) (N := 63) (ty := .array .int) X (opsC_ok Nf Sf) rfl (by decide) inX12 tyX12_ok nmX12 (by decide) wf_X12_31 rfl hmn rfl (fun _ _ _ => rfl) (by decide +kernel) (fun _ => rfl) (fun _ => rfl) (by decide +kernel) rfl) (
    okc (ok_aload_n (j := 0) X (by decide +kernel) rfl rfl) (
    okc (ok_bipush (n := 6) X (by decide +kernel) rfl rfl) (
    okc (ok_newa_int X (opsC_ok Nf Sf) hNf hSf (by decide +kernel) rfl) (
    okc (ok_putF (ci := 12) (kf := 14) (idx := 34) (C := RX12) (T := TX12) (N := 63) (ty := .array .int) X (opsC_ok Nf Sf) rfl (by decide) inX12 tyX12_ok nmX12 (by decide) wf_X12_34 rfl hmn rfl (fun _ _ _ => rfl) (by decide +kernel) (fun _ => rfl) (fun _ => rfl) (by decide +kernel) rfl) (
    okc (ok_aload_n (j := 0) X (by decide +kernel) rfl rfl) (
    okc (ok_bipush (n := 6) X (by decide +kernel) rfl rfl) (
    okc (ok_newa_int X (opsC_ok Nf Sf) hNf hSf (by decide +kernel) rfl) (
    okc (ok_putF (ci := 12) (kf := 15) (idx := 37) (C := RX12) (T := TX12) (N := 63) (ty := .array .int) X (opsC_ok Nf Sf) rfl (by decide) inX12 tyX12_ok nmX12 (by decide) wf_X12_37 rfl hmn rfl (fun _ _ _ => rfl) (by decide +kernel) (fun _ => rfl) (fun _ => rfl) (by decide +kernel) rfl) (
    okc (ok_aload_n (j := 0) X (by decide +kernel) rfl rfl) (
    okc (ok_bipush (n := 40) X (by decide +kernel) rfl rfl) (
    okc (ok_newa_int X (opsC_ok Nf Sf) hNf hSf (by decide +kernel) rfl) (
    okc (ok_putF (ci := 12) (kf := 18) (idx := 40) (C := RX12) (T := TX12) (N := 63) (ty := .array .int) X (opsC_ok Nf Sf) rfl (by decide) inX12 tyX12_ok nmX12 (by decide) wf_X12_40 rfl hmn rfl (fun _ _ _ => rfl) (by decide +kernel) (fun _ => rfl) (fun _ => rfl) (by decide +kernel) rfl) (
    okc (ok_aload_n (j := 0) X (by decide +kernel) rfl rfl) (
    okc (ok_bipush (n := 40) X (by decide +kernel) rfl rfl) (
    okc (ok_newa_int X (opsC_ok Nf Sf) hNf hSf (by decide +kernel) rfl) (
    okc (ok_putF (ci := 12) (kf := 19) (idx := 43) (C := RX12) (T := TX12) (N := 63) (ty := .array .int) X (opsC_ok Nf Sf) rfl (by decide) inX12 tyX12_ok nmX12 (by decide) wf_X12_43 rfl hmn rfl (fun _ _ _ => rfl) (by decide +kernel) (fun _ => rfl) (fun _ => rfl) (by decide +kernel) rfl) (
    okc (ok_aload_n (j := 0) X (by decide +kernel) rfl rfl) (
    okc (ok_bipush (n := 40) X (by decide +kernel) rfl rfl) (
    okc (ok_newa_int X (opsC_ok Nf Sf) hNf hSf (by decide +kernel) rfl) (
    okc (ok_putF (ci := 12) (kf := 20) (idx := 46) (C := RX12) (T := TX12) (N := 63) (ty := .array .int) X (opsC_ok Nf Sf) rfl (by decide) inX12 tyX12_ok nmX12 (by decide) wf_X12_46 rfl hmn rfl (fun _ _ _ => rfl) (by decide +kernel) (fun _ => rfl) (fun _ => rfl) (by decide +kernel) rfl) (
    okc (ok_aload_n (j := 0) X (by decide +kernel) rfl rfl) (
    okc (ok_bipush (n := 40) X (by decide +kernel) rfl rfl) (
    okc (ok_newa_int X (opsC_ok Nf Sf) hNf hSf (by decide +kernel) rfl) (
    okc (ok_putF (ci := 12) (kf := 21) (idx := 49) (C := RX12) (T := TX12) (N := 63) (ty := .array .int) X (opsC_ok Nf Sf) rfl (by decide) inX12 tyX12_ok nmX12 (by decide) wf_X12_49 rfl hmn rfl (fun _ _ _ => rfl) (by decide +kernel) (fun _ => rfl) (fun _ => rfl) (by decide +kernel) rfl) (
    okc (ok_aload_n (j := 0) X (by decide +kernel) rfl rfl) (
    okc (ok_bipush (n := 120) X (by decide +kernel) rfl rfl) (
    okc (ok_newa_byte X (opsC_ok Nf Sf) hNf hSf (by decide +kernel) rfl) (
    okc (ok_putF (ci := 12) (kf := 22) (idx := 52) (C := RX12) (T := TX12) (N := 63) (ty := .array .byte) X (opsC_ok Nf Sf) rfl (by decide) inX12 tyX12_ok nmX12 (by decide) wf_X12_52 rfl hmn rfl (fun _ _ _ => rfl) (by decide +kernel) (fun _ => rfl) (fun _ => rfl) (by decide +kernel) rfl) (
    okc (ok_aload_n (j := 0) X (by decide +kernel) rfl rfl) (
    okc (ok_sipush (n := 260) X (by decide +kernel) rfl rfl) (
    okc (ok_newa_byte X (opsC_ok Nf Sf) hNf hSf (by decide +kernel) rfl) (
    okc (ok_putF (ci := 12) (kf := 28) (idx := 56) (C := RX12) (T := TX12) (N := 63) (ty := .array .byte) X (opsC_ok Nf Sf) rfl (by decide) inX12 tyX12_ok nmX12 (by decide) wf_X12_56 rfl hmn rfl (fun _ _ _ => rfl) (by decide +kernel) (fun _ => rfl) (fun _ => rfl) (by decide +kernel) rfl) (
    okc (ok_aload_n (j := 0) X (by decide +kernel) rfl rfl) (
    okc (ok_sipush (n := 260) X (by decide +kernel) rfl rfl) (
    okc (ok_newa_int X (opsC_ok Nf Sf) hNf hSf (by decide +kernel) rfl) (
    okc (ok_putF (ci := 12) (kf := 29) (idx := 59) (C := RX12) (T := TX12) (N := 63) (ty := .array .int) X (opsC_ok Nf Sf) rfl (by decide) inX12 tyX12_ok nmX12 (by decide) wf_X12_59 rfl hmn rfl (fun _ _ _ => rfl) (by decide +kernel) (fun _ => rfl) (fun _ => rfl) (by decide +kernel) rfl) (
    okc (ok_aload_n (j := 0) X (by decide +kernel) rfl rfl) (
    okc (ok_iconst (n := 2) X (by decide +kernel) rfl rfl) (
    okc (ok_newa_int X (opsC_ok Nf Sf) hNf hSf (by decide +kernel) rfl) (
    okc (ok_putF (ci := 12) (kf := 30) (idx := 62) (C := RX12) (T := TX12) (N := 63) (ty := .array .int) X (opsC_ok Nf Sf) rfl (by decide) inX12 tyX12_ok nmX12 (by decide) wf_X12_62 rfl hmn rfl (fun _ _ _ => rfl) (by decide +kernel) (fun _ => rfl) (fun _ => rfl) (by decide +kernel) rfl) (
    okc (ok_aload_n (j := 0) X (by decide +kernel) rfl rfl) (
    okc (ok_bipush (n := 122) X (by decide +kernel) rfl rfl) (
    okc (ok_newa_short X (opsC_ok Nf Sf) hNf hSf (by decide +kernel) rfl) (
    okc (ok_putF (ci := 12) (kf := 31) (idx := 65) (C := RX12) (T := TX12) (N := 63) (ty := .array .short) X (opsC_ok Nf Sf) rfl (by decide) inX12 tyX12_ok nmX12 (by decide) wf_X12_65 rfl hmn rfl (fun _ _ _ => rfl) (by decide +kernel) (fun _ => rfl) (fun _ => rfl) (by decide +kernel) rfl) (
    okc (ok_aload_n (j := 0) X (by decide +kernel) rfl rfl) (
    okc (ok_bipush (n := 122) X (by decide +kernel) rfl rfl) (
    okc (ok_newa_short X (opsC_ok Nf Sf) hNf hSf (by decide +kernel) rfl) (
    okc (ok_putF (ci := 12) (kf := 32) (idx := 69) (C := RX12) (T := TX12) (N := 63) (ty := .array .short) X (opsC_ok Nf Sf) rfl (by decide) inX12 tyX12_ok nmX12 (by decide) wf_X12_69 rfl hmn rfl (fun _ _ _ => rfl) (by decide +kernel) (fun _ => rfl) (fun _ => rfl) (by decide +kernel) rfl) (
    okc (ok_aload_n (j := 0) X (by decide +kernel) rfl rfl) (
    okc (ok_bipush (n := 6) X (by decide +kernel) rfl rfl) (
    okc (ok_newa_int X (opsC_ok Nf Sf) hNf hSf (by decide +kernel) rfl) (
    okc (ok_putF (ci := 12) (kf := 33) (idx := 72) (C := RX12) (T := TX12) (N := 63) (ty := .array .int) X (opsC_ok Nf Sf) rfl (by decide) inX12 tyX12_ok nmX12 (by decide) wf_X12_72 rfl hmn rfl (fun _ _ _ => rfl) (by decide +kernel) (fun _ => rfl) (fun _ => rfl) (by decide +kernel) rfl) (
    okc (ok_aload_n (j := 0) X (by decide +kernel) rfl rfl) (
    okc (ok_sipush (n := 130) X (by decide +kernel) rfl rfl) (
    okc (ok_newa_int X (opsC_ok Nf Sf) hNf hSf (by decide +kernel) rfl) (
    okc (ok_putF (ci := 12) (kf := 34) (idx := 75) (C := RX12) (T := TX12) (N := 63) (ty := .array .int) X (opsC_ok Nf Sf) rfl (by decide) inX12 tyX12_ok nmX12 (by decide) wf_X12_75 rfl hmn rfl (fun _ _ _ => rfl) (by decide +kernel) (fun _ => rfl) (fun _ => rfl) (by decide +kernel) rfl) (
    okc (ok_aload_n (j := 0) X (by decide +kernel) rfl rfl) (
    okc (ok_bipush (n := 6) X (by decide +kernel) rfl rfl) (
    okc (ok_newa_int X (opsC_ok Nf Sf) hNf hSf (by decide +kernel) rfl) (
    okc (ok_putF (ci := 12) (kf := 36) (idx := 78) (C := RX12) (T := TX12) (N := 63) (ty := .array .int) X (opsC_ok Nf Sf) rfl (by decide) inX12 tyX12_ok nmX12 (by decide) wf_X12_78 rfl hmn rfl (fun _ _ _ => rfl) (by decide +kernel) (fun _ => rfl) (fun _ => rfl) (by decide +kernel) rfl) (
    okc (ok_aload_n (j := 0) X (by decide +kernel) rfl rfl) (
    okc (ok_bipush (n := 6) X (by decide +kernel) rfl rfl) (
    okc (ok_newa_int X (opsC_ok Nf Sf) hNf hSf (by decide +kernel) rfl) (
    okc (ok_putF (ci := 12) (kf := 37) (idx := 81) (C := RX12) (T := TX12) (N := 63) (ty := .array .int) X (opsC_ok Nf Sf) rfl (by decide) inX12 tyX12_ok nmX12 (by decide) wf_X12_81 rfl hmn rfl (fun _ _ _ => rfl) (by decide +kernel) (fun _ => rfl) (fun _ => rfl) (by decide +kernel) rfl) (
    okc (ok_aload_n (j := 0) X (by decide +kernel) rfl rfl) (
    okc (ok_bipush (n := 7) X (by decide +kernel) rfl rfl) (
    okc (ok_newa_int X (opsC_ok Nf Sf) hNf hSf (by decide +kernel) rfl) (
    okc (ok_putF (ci := 12) (kf := 38) (idx := 84) (C := RX12) (T := TX12) (N := 63) (ty := .array .int) X (opsC_ok Nf Sf) rfl (by decide) inX12 tyX12_ok nmX12 (by decide) wf_X12_84 rfl hmn rfl (fun _ _ _ => rfl) (by decide +kernel) (fun _ => rfl) (fun _ => rfl) (by decide +kernel) rfl) (
    okc (ok_aload_n (j := 0) X (by decide +kernel) rfl rfl) (
    okc (ok_bipush (n := 6) X (by decide +kernel) rfl rfl) (
    okc (ok_newa_int X (opsC_ok Nf Sf) hNf hSf (by decide +kernel) rfl) (
    okc (ok_putF (ci := 12) (kf := 39) (idx := 87) (C := RX12) (T := TX12) (N := 63) (ty := .array .int) X (opsC_ok Nf Sf) rfl (by decide) inX12 tyX12_ok nmX12 (by decide) wf_X12_87 rfl hmn rfl (fun _ _ _ => rfl) (by decide +kernel) (fun _ => rfl) (fun _ => rfl) (by decide +kernel) rfl) (
    okc (ok_aload_n (j := 0) X (by decide +kernel) rfl rfl) (
    okc (ok_sipush (n := 175) X (by decide +kernel) rfl rfl) (
    okc (ok_newa_int X (opsC_ok Nf Sf) hNf hSf (by decide +kernel) rfl) (
    okc (ok_putF (ci := 12) (kf := 41) (idx := 90) (C := RX12) (T := TX12) (N := 63) (ty := .array .int) X (opsC_ok Nf Sf) rfl (by decide) inX12 tyX12_ok nmX12 (by decide) wf_X12_90 rfl hmn rfl (fun _ _ _ => rfl) (by decide +kernel) (fun _ => rfl) (fun _ => rfl) (by decide +kernel) rfl) (
    okc (ok_aload_n (j := 0) X (by decide +kernel) rfl rfl) (
    okc (ok_bipush (n := 78) X (by decide +kernel) rfl rfl) (
    okc (ok_newa_int X (opsC_ok Nf Sf) hNf hSf (by decide +kernel) rfl) (
    okc (ok_putF (ci := 12) (kf := 42) (idx := 93) (C := RX12) (T := TX12) (N := 63) (ty := .array .int) X (opsC_ok Nf Sf) rfl (by decide) inX12 tyX12_ok nmX12 (by decide) wf_X12_93 rfl hmn rfl (fun _ _ _ => rfl) (by decide +kernel) (fun _ => rfl) (fun _ => rfl) (by decide +kernel) rfl) (
    okc (ok_aload_n (j := 0) X (by decide +kernel) rfl rfl) (
    okc (ok_bipush (n := 91) X (by decide +kernel) rfl rfl) (
    okc (ok_newa_int X (opsC_ok Nf Sf) hNf hSf (by decide +kernel) rfl) (
    okc (ok_putF (ci := 12) (kf := 43) (idx := 96) (C := RX12) (T := TX12) (N := 63) (ty := .array .int) X (opsC_ok Nf Sf) rfl (by decide) inX12 tyX12_ok nmX12 (by decide) wf_X12_96 rfl hmn rfl (fun _ _ _ => rfl) (by decide +kernel) (fun _ => rfl) (fun _ => rfl) (by decide +kernel) rfl) (
    okc (ok_aload_n (j := 0) X (by decide +kernel) rfl rfl) (
    okc (ok_bipush (n := 6) X (by decide +kernel) rfl rfl) (
    okc (ok_newa_int X (opsC_ok Nf Sf) hNf hSf (by decide +kernel) rfl) (
    okc (ok_putF (ci := 12) (kf := 52) (idx := 99) (C := RX12) (T := TX12) (N := 63) (ty := .array .int) X (opsC_ok Nf Sf) rfl (by decide) inX12 tyX12_ok nmX12 (by decide) wf_X12_99 rfl hmn rfl (fun _ _ _ => rfl) (by decide +kernel) (fun _ => rfl) (fun _ => rfl) (by decide +kernel) rfl) (
    okc (ok_aload_n (j := 0) X (by decide +kernel) rfl rfl) (
    okc (ok_bipush (n := 6) X (by decide +kernel) rfl rfl) (
    okc (ok_newa_int X (opsC_ok Nf Sf) hNf hSf (by decide +kernel) rfl) (
    okc (ok_putF (ci := 12) (kf := 53) (idx := 102) (C := RX12) (T := TX12) (N := 63) (ty := .array .int) X (opsC_ok Nf Sf) rfl (by decide) inX12 tyX12_ok nmX12 (by decide) wf_X12_102 rfl hmn rfl (fun _ _ _ => rfl) (by decide +kernel) (fun _ => rfl) (fun _ => rfl) (by decide +kernel) rfl) (
    okc (ok_aload_n (j := 0) X (by decide +kernel) rfl rfl) (
    okc (ok_bipush (n := 7) X (by decide +kernel) rfl rfl) (
    okc (ok_newa_int X (opsC_ok Nf Sf) hNf hSf (by decide +kernel) rfl) (
    okc (ok_putF (ci := 12) (kf := 54) (idx := 105) (C := RX12) (T := TX12) (N := 63) (ty := .array .int) X (opsC_ok Nf Sf) rfl (by decide) inX12 tyX12_ok nmX12 (by decide) wf_X12_105 rfl hmn rfl (fun _ _ _ => rfl) (by decide +kernel) (fun _ => rfl) (fun _ => rfl) (by decide +kernel) rfl) (
    okc (ok_aload_n (j := 0) X (by decide +kernel) rfl rfl) (
    okc (ok_bipush (n := 50) X (by decide +kernel) rfl rfl) (
    okc (ok_newa_int X (opsC_ok Nf Sf) hNf hSf (by decide +kernel) rfl) (
    okc (ok_putF (ci := 12) (kf := 56) (idx := 108) (C := RX12) (T := TX12) (N := 63) (ty := .array .int) X (opsC_ok Nf Sf) rfl (by decide) inX12 tyX12_ok nmX12 (by decide) wf_X12_108 rfl hmn rfl (fun _ _ _ => rfl) (by decide +kernel) (fun _ => rfl) (fun _ => rfl) (by decide +kernel) rfl) (
    okc (ok_aload_n (j := 0) X (by decide +kernel) rfl rfl) (
    okc (ok_bipush (n := 24) X (by decide +kernel) rfl rfl) (
    okc (ok_newa_int X (opsC_ok Nf Sf) hNf hSf (by decide +kernel) rfl) (
    okc (ok_putF (ci := 12) (kf := 58) (idx := 111) (C := RX12) (T := TX12) (N := 63) (ty := .array .int) X (opsC_ok Nf Sf) rfl (by decide) inX12 tyX12_ok nmX12 (by decide) wf_X12_111 rfl hmn rfl (fun _ _ _ => rfl) (by decide +kernel) (fun _ => rfl) (fun _ => rfl) (by decide +kernel) rfl) (
    okc (ok_aload_n (j := 0) X (by decide +kernel) rfl rfl) (
    okc (ok_bipush (n := 6) X (by decide +kernel) rfl rfl) (
    okc (ok_newa_int X (opsC_ok Nf Sf) hNf hSf (by decide +kernel) rfl) (
    okc (ok_dup X (by decide +kernel) rfl) (
    okc (ok_iconst (n := 0) X (by decide +kernel) rfl rfl) (
    okc (ok_iconst (n := -1) X (by decide +kernel) rfl rfl) (
    okc (ok_iastC X (opsC_ok Nf Sf) (by decide +kernel) rfl) (
    okc (ok_dup X (by decide +kernel) rfl) (
    okc (ok_iconst (n := 1) X (by decide +kernel) rfl rfl) (
    okc (ok_iconst (n := -1) X (by decide +kernel) rfl rfl) (
    okc (ok_iastC X (opsC_ok Nf Sf) (by decide +kernel) rfl) (
    okc (ok_dup X (by decide +kernel) rfl) (
    okc (ok_iconst (n := 2) X (by decide +kernel) rfl rfl) (
    okc (ok_iconst (n := -1) X (by decide +kernel) rfl rfl) (
    okc (ok_iastC X (opsC_ok Nf Sf) (by decide +kernel) rfl) (
    okc (ok_dup X (by decide +kernel) rfl) (
    okc (ok_iconst (n := 3) X (by decide +kernel) rfl rfl) (
    okc (ok_iconst (n := -1) X (by decide +kernel) rfl rfl) (
    okc (ok_iastC X (opsC_ok Nf Sf) (by decide +kernel) rfl) (
    okc (ok_dup X (by decide +kernel) rfl) (
    okc (ok_iconst (n := 4) X (by decide +kernel) rfl rfl) (
    okc (ok_iconst (n := -1) X (by decide +kernel) rfl rfl) (
    okc (ok_iastC X (opsC_ok Nf Sf) (by decide +kernel) rfl) (
    okc (ok_dup X (by decide +kernel) rfl) (
    okc (ok_iconst (n := 5) X (by decide +kernel) rfl rfl) (
    okc (ok_iconst (n := -1) X (by decide +kernel) rfl rfl) (
    okc (ok_iastC X (opsC_ok Nf Sf) (by decide +kernel) rfl) (
    okc (ok_putF (ci := 12) (kf := 59) (idx := 114) (C := RX12) (T := TX12) (N := 63) (ty := .array .int) X (opsC_ok Nf Sf) rfl (by decide) inX12 tyX12_ok nmX12 (by decide) wf_X12_114 rfl hmn rfl (fun _ _ _ => rfl) (by decide +kernel) (fun _ => rfl) (fun _ => rfl) (by decide +kernel) rfl) (
    okc (ok_aload_n (j := 0) X (by decide +kernel) rfl rfl) (
    okc (ok_bipush (n := 6) X (by decide +kernel) rfl rfl) (
    okc (ok_newa_int X (opsC_ok Nf Sf) hNf hSf (by decide +kernel) rfl) (
    okc (ok_putF (ci := 12) (kf := 60) (idx := 117) (C := RX12) (T := TX12) (N := 63) (ty := .array .int) X (opsC_ok Nf Sf) rfl (by decide) inX12 tyX12_ok nmX12 (by decide) wf_X12_117 rfl hmn rfl (fun _ _ _ => rfl) (by decide +kernel) (fun _ => rfl) (fun _ => rfl) (by decide +kernel) rfl) (
    okc (ok_aload_n (j := 0) X (by decide +kernel) rfl rfl) (
    okc (ok_sipush (n := 360) X (by decide +kernel) rfl rfl) (
    okc (ok_newa_long X (opsC_ok Nf Sf) hNf hSf (by decide +kernel) rfl) (
    okc (ok_putF (ci := 12) (kf := 61) (idx := 120) (C := RX12) (T := TX12) (N := 63) (ty := .array .long) X (opsC_ok Nf Sf) rfl (by decide) inX12 tyX12_ok nmX12 (by decide) wf_X12_120 rfl hmn rfl (fun _ _ _ => rfl) (by decide +kernel) (fun _ => rfl) (fun _ => rfl) (by decide +kernel) rfl) (
    okc (ok_aload_n (j := 0) X (by decide +kernel) rfl rfl) (
    okc (ok_bipush (n := 60) X (by decide +kernel) rfl rfl) (
    okc (ok_newa_long X (opsC_ok Nf Sf) hNf hSf (by decide +kernel) rfl) (
    okc (ok_putF (ci := 12) (kf := 62) (idx := 124) (C := RX12) (T := TX12) (N := 63) (ty := .array .long) X (opsC_ok Nf Sf) rfl (by decide) inX12 tyX12_ok nmX12 (by decide) wf_X12_124 rfl hmn rfl (fun _ _ _ => rfl) (by decide +kernel) (fun _ => rfl) (fun _ => rfl) (by decide +kernel) rfl) (
    okc (ok_vret hret (by decide +kernel)) (
    okn)))))))))))))))))))))))))))))))))))))))))))))))))))))))))))))))))))))))))))))))))))))))))))))))))))))))))))))))))))))))))))))))))))))))))))))))))))))))))))))))))))))))))))))))))))))))))))))))))))))))))))))))))))))))))))))))))))))))))))))))))))))))))))))))))))))))))))))))))))
def FC_X12_init : EnC := fun av h => gd (Nat.ble (ent0 av).length 1) (fcr h.n h.sl 38 2169 (ex (tbC_X12_init (h.n + 38) (h.sl + 2169) (calC [])) rVC [] (fun _ _ _ _ => none) 277 0 (ent av 1) [] h))
set_option maxRecDepth 100000 in
set_option maxHeartbeats 4000000 in
theorem runC_X12_init {l : Launch} {G : Gm} (D : Nat) (hD : 1 ≤ D) : enCOK l G D 148 FC_X12_init := by
  intro av h h' hF
  obtain ⟨D', rfl⟩ : ∃ D', D = D' + 1 := ⟨D - 1, by omega⟩
  rw [md_X12_init]
  refine runC_core (dn := 38) (ds := 2169) (plainFor_of_name (by decide +kernel)) rfl hF ?_
  intro A p e R s0 m args below meth c Q ad0 hfr hlo hn hs hmn X hret
  have X : Cx G A RX12 cX12_init 1 p s0 m args c := X
  exact tkC_X12_init (D' := D') X (calC_ok (ennC)) (fun k hk => ⟨by omega, by omega⟩) hn hs hmn hret
