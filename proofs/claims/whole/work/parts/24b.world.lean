/-! the world at the law's entry -/
theorem vw_each (c : Nat) (q : vw_C) (h : vwCl[c]? = some q) : (∀ w ∈ u_ws q.1 q.2.1 q.2.2, w ∈ TB) ∧ ∃ n, Cond.instantiable q.1 n ∈ TB := by
  match c, h with
  | 0, h => cases h; exact ⟨inX0, _, wt_X0⟩
  | 1, h => cases h; exact ⟨inX1, _, wt_X1⟩
  | 2, h => cases h; exact ⟨inX2, _, wt_X2⟩
  | 3, h => cases h; exact ⟨inX3, _, wt_X3⟩
  | 4, h => cases h; exact ⟨inX4, _, wt_X4⟩
  | 5, h => cases h; exact ⟨inX5, _, wt_X5⟩
  | 6, h => cases h; exact ⟨inX6, _, wt_X6⟩
  | 7, h => cases h; exact ⟨inX7, _, wt_X7⟩
  | 8, h => cases h; exact ⟨inX8, _, wt_X8⟩
  | 9, h => cases h; exact ⟨inX9, _, wt_X9⟩
  | 10, h => cases h; exact ⟨inX10, _, wt_X10⟩
  | 11, h => cases h; exact ⟨inX11, _, wt_X11⟩
  | 12, h => cases h; exact ⟨inX12, _, wt_X12⟩
  | c + 13, h => cases h
theorem vw_known {s : State} {args : Array Value} (hts : ∀ w ∈ TB, w.before args s = true) : ∃ (dC : Nat → ClassId) (dI : Nat → Nat → Nat), ∀ (c : Nat) (q : vw_C), vwCl[c]? = some q → u_Kn s q.1 q.2.1 q.2.2 (dC c) (dI c) := by
  have h : ∀ c : Nat, ∃ (z : ClassId × (Nat → Nat)), ∀ q : vw_C, vwCl[c]? = some q → u_Kn s q.1 q.2.1 q.2.2 z.1 z.2 := by
    intro c
    cases hc : vwCl[c]? with
    | none => exact ⟨(0, fun _ => 0), fun q h => by cases h⟩
    | some q =>
      obtain ⟨h1, n, h2⟩ := vw_each c q hc
      obtain ⟨cC, iS, h3⟩ := u_known hts h1 (hts _ h2)
      exact ⟨(cC, iS), fun q' h => by cases h; exact h3⟩
  exact ⟨fun c => (Classical.choose (h c)).1, fun c => (Classical.choose (h c)).2, fun c => Classical.choose_spec (h c)⟩
theorem vw_prim {s : State} {args : Array Value} {ty : FieldType} (h : (Cond.arrayClass ty).before args s = true) : ∃ c, ArrOfT s c ty ∧ s.vm.findClass ("[" ++ ty.toString) = some c := by
  obtain ⟨cA, kA, comp, h1, h2, h3⟩ := Cond.arrayClass_spec h
  exact ⟨cA, fun n z => ⟨fun k h => (by cases h), kA, h2, comp, h3⟩, h1⟩
theorem vw_obj {s : State} {args : Array Value} {C : String} (h : (Cond.arrayOver (.object C)).before args s = true) : ∃ c, ArrOfT s c (.object C) ∧ va_RA s c (.object C) := by
  obtain ⟨comp, c, k, h1, h2, h3, h4, h5⟩ := Cond.arrayOver_spec h
  exact ⟨c, fun n z => ⟨fun k h => (by cases h), k, h3, comp, h4⟩, k, comp, h3, h4, h1, h5⟩
theorem vw_arrl {s : State} (h : AOl s) : ∃ c, ArrOfT s c (.array .long) ∧ s.vm.findClass ("[" ++ (FieldType.array .long).toString) = some c := by
  unfold AOl Cond.before at h
  simp only [Cond.holds, Cond.value, beq_iff_eq] at h
  cases hc : s.vm.findClass (FieldType.array .long).toString with
  | none => simp [hc] at h
  | some comp =>
    simp only [hc, Option.bind_some, Option.bind_eq_some_iff, Option.map_eq_some_iff] at h
    obtain ⟨c, hi, k, hk, hb⟩ := h
    cases hkind : k.kind with
    | array component ty =>
      rw [hkind] at hb
      simp at hb
      exact ⟨c, fun n z => ⟨fun k h => (by cases h), k, hk, component, by rw [hkind, hb.1]⟩, hb.2⟩
    | _ => rw [hkind] at hb; simp at hb
theorem nw_above : ∀ j, j < 8 → Cond.eq (.elem (.static RX0 "ABOVE" "[I") (.int (Int32.ofNat j))) (.int (tbA.getD j 0)) ∈ flatC (Jvm.Cond.and given_1 narrow_1) := by decide +kernel
theorem nw_own : ∀ j, j < 32 → Cond.eq (.elem (.static RX0 "OWN" "[I") (.int (Int32.ofNat j))) (.int (tbO.getD j 0)) ∈ flatC (Jvm.Cond.and given_1 narrow_1) := by decide +kernel
theorem nw_str : ∀ j, j < 6 → Cond.eq (.elem (.field (.string RX8 76) "java/lang/String" "value" "[B") (.int (Int32.ofNat j))) (.int ((([[103, 110, 98, 104, 112, 111]] : List (List Int32)).getD 0 []).getD j 0)) ∈ flatC (Jvm.Cond.and given_1 narrow_1) := by decide +kernel
theorem lw_world {s : State} {args : Array Value} {A : Nat → Prop} (b : Nat) (hts : ∀ w ∈ lw_tbl, w.before args s = true) (hgv : (Jvm.Cond.and given_1 narrow_1).before args s = true) (hA : ∀ a : Nat, a < s.heap.size → ¬ A a) : ∃ G : Gm, va_K G.D vwCl (tyA G) s ∧ EX G A s ∧ G.ex 4 = b := by
  have hg := flat_of_before _ hgv
  have htb : ∀ w ∈ TB, w.before args s = true := fun w hw => hts w (List.mem_filter.mp hw).1
  obtain ⟨dC, dI, hd⟩ := vw_known htb
  obtain ⟨c0, p0, q0⟩ := vw_prim (htb _ wa_int)
  obtain ⟨c1, p1, q1⟩ := vw_prim (htb _ wa_long)
  obtain ⟨c2, p2, q2⟩ := vw_prim (htb _ wa_byte)
  obtain ⟨c3, p3, q3⟩ := vw_prim (htb _ wa_short)
  have hao : (Cond.arrayOver (.object RX2)).before args s = true := hts _ (by decide +kernel)
  have hal : AOl s := hts (Cond.arrayOver (.array .long)) (by decide +kernel)
  obtain ⟨c4, p4, q4⟩ := vw_obj hao
  obtain ⟨c5, p5, q5⟩ := vw_arrl hal
  obtain ⟨t0, e0, T0⟩ := va_Tof (tm := .static RX0 "ABOVE" "[I") (ty := .int) (N := 8) (f := fun j => .int (tbA.getD j 0)) (A := A) (by decide) (hg _ (by decide +kernel)) (va_eqt (hg (Cond.eq (.length (.static RX0 "ABOVE" "[I")) (.int (Int32.ofNat 8))) (by decide +kernel))) (fun j hj => va_eqt (hg _ (nw_above j hj))) hA
  obtain ⟨t1, e1, T1⟩ := va_Tof (tm := .static RX0 "OWN" "[I") (ty := .int) (N := 32) (f := fun j => .int (tbO.getD j 0)) (A := A) (by decide) (hg _ (by decide +kernel)) (va_eqt (hg (Cond.eq (.length (.static RX0 "OWN" "[I")) (.int (Int32.ofNat 32))) (by decide +kernel))) (fun j hj => va_eqt (hg _ (nw_own j hj))) hA
  obtain ⟨adK, adV, S, eS⟩ := vk_Sof (args := args) (s := s) (N := 1) (tm := fun _ => .string RX8 76) (len := [6]) (byt := [[103, 110, 98, 104, 112, 111]]) (A := A) (fun i hi => by rw [show i = 0 by omega]; decide) (fun i hi => hg _ (by decide +kernel)) (fun i hi => hg _ (by decide +kernel)) (fun i hi => hg _ (by decide +kernel)) (fun i hi => by rw [show i = 0 by omega]; exact hg _ (by decide +kernel)) (fun i hi j hj => by rw [show i = 0 by omega] at hj ⊢; exact hg _ (nw_str j hj)) (fun i j hi hj hij => absurd (show i = j by omega) hij) hA
  refine ⟨(dC, dI, fun i => match i with | 0 => c0 | 1 => c1 | 2 => c2 | 3 => c3 | 4 => c4 | _ => c5, fun i => match i with | 0 => t0 | 1 => t1 | 2 => adK 0 | 3 => adV 0 | _ => b), ⟨hd, ?_⟩, ⟨?_, T0, ?_, T1, ?_, ?_, ?_, hao, hal⟩, rfl⟩
  · intro k q hk
    match k, hk with
    | 0, h => cases h; exact ⟨p0, q0⟩
    | 1, h => cases h; exact ⟨p1, q1⟩
    | 2, h => cases h; exact ⟨p2, q2⟩
    | 3, h => cases h; exact ⟨p3, q3⟩
    | 4, h => cases h; exact ⟨p4, q4⟩
    | 5, h => cases h; exact ⟨p5, q5⟩
    | k + 6, h => cases h
  · exact va_Zof (hts _ (by decide +kernel)) (htb _ wi_X0) e0 hA
  · exact va_Zof (hts _ (by decide +kernel)) (htb _ wi_X0) e1 hA
  · exact vk_R.of (hts _ (by decide +kernel)) (eS 0 (by decide))
  · refine ⟨fun i hi => ?_, fun i j hi hj _ => by omega⟩
    have h := S.1 i hi
    rw [show i = 0 by omega] at h ⊢
    exact h
  · exact va_Zof (hts _ (by decide +kernel)) (hts (Cond.initialized "java/lang/String") (by decide +kernel)) (va_eqi (hg _ (by decide +kernel))) hA
