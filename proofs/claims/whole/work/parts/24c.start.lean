def R_law : String := "HatRankLaw"
def lw_P (b : Addr) (xs : List Int32) (args : Array Value) (s : State) : Prop := args = #[.ref b] ∧ s.IntsAt b xs ∧ xs.length ≤ 3072 ∧ (Jvm.Cond.and given_1 narrow_1).before args s = true
def lw_Q (_ : Array Value) (s : State) (o : Outcome) (t : State) : Prop := o = .returned (some (.int 1)) ∧ Framed s o t [] 600000 7302250
def lw_Z (below : List Frame) (a : Array Value) (s : State) : State → Prop := fun t => ∃ o, t.status = .running ∧ Ended t below o ∧ lw_Q a s o t
/-- the law's own end, with 1 on the stack, nothing written that was there before, its room as the claim has it -/
theorem lw_ret {p : Program} {l : Launch} {e : Env} {s : State} {m : MethodId} {below : List Frame} {meth : Method} {c : Code} {b : Nat} (hx : p.tables.exec = Jvm.exec) (hb : c.code = code) (hr : meth.sig.returnType = ret) (hlocks : meth.locks = false) {pc : Nat} {H : Heap} {ls : Array Slot} (hdg : decode code pc = .ok (.ireturn, 1)) : W p l e room_1 s m #[Value.ref b] below meth c H [] 600000 7302250 (lw_Z below #[Value.ref b] s) (F0 m pc ls [.int 1]) := by
  intro T hT X
  obtain ⟨fs, hret, hrun, hended, hW, hframe⟩ := X.leave (v := some (.int 1)) (hlocks := hlocks) (fun h => by rw [hr] at h; cases h)
  have hmeth' : T.vm.method? m = some meth := X.method'
  refine ⟨T.setFrames fs, ?_, .returned (some (.int 1)), hrun, hended, rfl, ⟨_, rfl⟩, hW, hframe⟩
  jvm_step X.here [X.here.top, hx, hb, hdg, hmeth', hr, ret, narrow_b1]
  (try refine ⟨rfl, ?_⟩); (try refine ⟨rfl, ?_⟩)
  first | (intro acts; rw [hret _ acts rfl rfl rfl]) | rw [hret _ _ rfl rfl rfl]
  exact Steps.refl _
/-- what holds at the law's entry: the machine, the code, the tables' words (any of lw_tbl by 'hts w (by decide +kernel)'), the script of L ints xs at the cell b, what the Statement gives of the start (any of its parts by flat_of_before) -/
def lw_At (p : Program) (s : State) (m : MethodId) (meth : Method) (c : Code) (b L : Nat) (xs : Nat → Int32) : Prop :=
  p.tables.exec = Jvm.exec ∧ c.code = code ∧ meth.sig.returnType = ret ∧ c.maxLocals = 4 ∧ s.vm.findClass R_law = some m.cls ∧ (∀ w ∈ lw_tbl, w.before #[Value.ref b] s = true) ∧ va_X b L xs s s.heap ∧ b < s.heap.size ∧ meth.locks = false ∧ (Jvm.Cond.and given_1 narrow_1).before #[Value.ref b] s = true
theorem start_of {p : Program} {e : Env} {s : State} {m : MethodId} {below : List Frame} {meth : Method} {c : Code} (l : Launch) {b L : Nat} {xs : Nat → Int32} (hp : ∃ (n : Nat) (s' : SS), F_L_law_18 xs L n 0 sE = some ((1 : Int32), s')) (C0 : lw_At p s m meth c b L xs) : W p l e room_1 s m #[Value.ref b] below meth c s.heap [] 0 0 (lw_Z below #[Value.ref b] s) (entryFrame m ([Value.ref b] : List Value).toArray 4) := by
  obtain ⟨n, s', hF⟩ := hp
  obtain ⟨hx, hb, hr, hml, hown, hts, hX, hbl, hlk, hgv⟩ := C0
  obtain ⟨G, hK, hEX, hG⟩ := lw_world (A := fun q => s.heap.size ≤ q) b hts hgv (fun a h => by omega)
  subst hG
  have X : Cx G (fun q => s.heap.size ≤ q) RL cL_law 4 p s m #[Value.ref (G.ex 4)] c := ⟨hx, hb, hml, hown, fun w hw => hts w (List.mem_filter.mp hw).1, hK, fun q h => h, hEX⟩
  have hret : RetK G (fun q => s.heap.size ≤ q) cL_law 0 0 (fun i => G.ex (i - 200)) p l e room_1 s m #[Value.ref (G.ex 4)] below meth c (lw_Z below #[Value.ref (G.ex 4)] s) opsS rI ((1 : Int32), s') .ireturn okI := by
    intro pc rv x ad H locs cells slots lsA d hok hr2 hR
    obtain ⟨e1, e2⟩ := rI_of hr2
    cases e1
    have a6 : cells + 0 = 113 := hR.2.2.2.2.2.1
    have a7 : slots + 0 = 6344 := hR.2.2.2.2.2.2.1
    exact va_forget (fun q hq => hR.2.2.1.2.2 q hq) (W.widen (by omega) (by omega) (lw_ret hx hb hr hlk d))
  have hrm : ∀ k, k ≤ 21 → 2000 + 1 ≤ room_1.frames ∧ 8 + (k + 11) + 40 * 2000 ≤ room_1.locals := fun k hk => ⟨(by decide : 2001 ≤ 2048), (by omega : 8 + (k + 11) + 40 * 2000 ≤ 84000)⟩
  have hT := tk_L (D' := 2000) X (calE_ok (es_L_ok 2000 (by decide))) hrm (by decide : 113 ≤ 0 + 600000) (by decide : 6344 ≤ 0 + 7302250) hX hbl (fun h => absurd hbl (Nat.not_lt.mpr h)) rfl hret
  have g18 := gd_L hT n 0 sE hF
  have g0 := ex_good (tk_E (D' := 2000) (ad0 := fun i => G.ex (i - 200)) (l := l) (e := e) (R := room_1) (below := below) (meth := meth) (Q := lw_Z below #[Value.ref (G.ex 4)] s) (n0 := 0) (sl0 := 0) (ret := fun _ _ => none) (r := hE) X (calC_ok (encC (runC_X11_init 2000 (by decide)) (encC (runC_X12_init 2000 (by decide)) ennC))) hrm (by decide : 113 ≤ 0 + 600000) (by decide : 6344 ≤ 0 + 7302250)) (cut := [18]) (κ := ka_E) (fun pc' ls' st' x' hh => by
    unfold ka_E at hh
    cases hb : Nat.beq pc' 18 with
    | true =>
      rw [hb] at hh
      have e9 := beq1 hb
      subst e9
      simp only [cond_true] at hh
      split at hh
      · obtain ⟨g0, hh1⟩ := gd_some hh
        have e0 := veq_of g0
        subst e0
        obtain ⟨g1, hh2⟩ := gd_some hh1
        have e1 := veq_of g1
        subst e1
        obtain ⟨g2, hh3⟩ := gd_some hh2
        have e2 := veq_of g2
        subst e2
        obtain ⟨g3, hh4⟩ := gd_some hh3
        have e3 := eq_of_beq g3
        subst e3
        have e4 := Option.some.inj hh4
        intro ad H locs cells slots lsA hR hl
        have hR : Rl G (fun q => s.heap.size ≤ q) s 0 0 (fun i => G.ex (i - 200)) ad x' H locs cells slots := hR
        rw [e4] at hR
        exact g18 ad H locs cells slots lsA (Rl_E hR) hl
      · cases hh
    | false =>
      rw [hb] at hh
      cases hh) 20 0 (ent [.ref 204] 4) [] hZ oE_some
  rw [lg_entry_eq]
  refine g0 (fun i => G.ex (i - 200)) s.heap [] 0 0 _ ⟨vaP_of (fun i (hi : i < 0) => absurd hi (Nat.not_lt_zero i)), vaD_of (fun i j (hi : i < 0) => absurd hi (Nat.not_lt_zero i)) (fun i (hi : i < 0) => absurd hi (Nat.not_lt_zero i)), va_S.rf, (show clo hZ from fun i j b h => (by cases h)), fun j => congrArg G.ex (by omega), rfl, rfl, fun _ _ => rfl⟩ (ent_ok (fun i => G.ex (i - 200)) [.ref 204] (by decide))
