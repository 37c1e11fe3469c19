/-- the locals at a method's entry -/
def ent0 : List Value → Lcs
  | [] => []
  | v :: r => bif Nat.beq v.category 2 then some v :: none :: ent0 r else some v :: ent0 r
def ent (av : List Value) (n : Nat) : Lcs := ent0 av ++ List.replicate (n - (ent0 av).length) none
theorem ent0_len (ad : Nat → Nat) : ∀ av : List Value, (ent0 av).length = (lg_sl (av.map (cv ad))).length
  | [] => rfl
  | v :: r => by
    have ih := ent0_len ad r
    unfold ent0
    rw [List.map_cons]
    show _ = (lg_sl (cv ad v :: r.map (cv ad))).length
    have e1 : lg_sl (cv ad v :: r.map (cv ad)) = (if (cv ad v).category = 2 then [Slot.val (cv ad v), .second] else [.val (cv ad v)]) ++ lg_sl (r.map (cv ad)) := by simp [lg_sl]
    rw [e1, cv_cat]
    by_cases hc : v.category = 2
    · rw [if_pos hc, hc]
      simp [ih]
    · rw [if_neg hc]
      have : Nat.beq v.category 2 = false := by
        cases hb : Nat.beq v.category 2
        · rfl
        · exact absurd (Nat.eq_of_beq_eq_true hb) hc
      rw [this]
      simp [ih]
theorem ent0_get (ad : Nat → Nat) : ∀ (av : List Value) (o i : Nat) (v : Value), (ent0 av)[i]? = some (some v) → (o + i, cv ad v) ∈ lv_args o (av.map (cv ad))
  | [], o, i, v, h => by simp [ent0] at h
  | w :: r, o, i, v, h => by
    unfold ent0 at h
    rw [List.map_cons]
    unfold lv_args
    rw [cv_cat]
    by_cases hc : w.category = 2
    · rw [if_pos hc]
      rw [hc] at h
      simp only [show Nat.beq 2 2 = true from rfl, cond_true] at h
      match i, h with
      | 0, h => simp at h; subst h; exact List.mem_cons_self
      | 1, h => simp at h
      | i + 2, h =>
        have := ent0_get ad r (o + 2) i v (by simpa using h)
        refine List.mem_cons_of_mem _ ?_
        rw [show o + (i + 2) = o + 2 + i by omega]
        exact this
    · rw [if_neg hc]
      have hb : Nat.beq w.category 2 = false := by
        cases hb : Nat.beq w.category 2
        · rfl
        · exact absurd (Nat.eq_of_beq_eq_true hb) hc
      rw [hb] at h
      simp only [cond_false] at h
      match i, h with
      | 0, h => simp at h; subst h; exact List.mem_cons_self
      | i + 1, h =>
        have := ent0_get ad r (o + 1) i v (by simpa using h)
        refine List.mem_cons_of_mem _ ?_
        rw [show o + (i + 1) = o + 1 + i by omega]
        exact this
theorem ent_ok (ad : Nat → Nat) (av : List Value) {n : Nat} (hn : (ent0 av).length ≤ n) : lvOK ad ((lg_sl (av.map (cv ad)) ++ List.replicate (n - (lg_sl (av.map (cv ad))).length) Slot.unset).toArray) n (ent av n) := by
  have hl := lv_entry (av.map (cv ad)) (n := n) (by rw [← ent0_len ad]; exact hn)
  refine ⟨hl.1, ?_, hl.2.1, fun i v h => ?_⟩
  · unfold ent
    rw [List.length_append, List.length_replicate]
    omega
  · refine hl.2.2 (i, cv ad v) ?_
    unfold ent at h
    by_cases hi : i < (ent0 av).length
    · rw [List.getElem?_append_left hi] at h
      have := ent0_get ad av 0 i v h
      rw [Nat.zero_add] at this
      exact this
    · rw [List.getElem?_append_right (by omega), List.getElem?_replicate] at h
      split at h <;> cases h
section ADQ
variable {ad0 : Nat → Nat} {G : Gm} {A : Nat → Prop} {own : String} {cc : ByteArray} {nL n0 sl0 : Nat} {p : Program} {l : Launch} {e : Env} {R : Room} {s : State} {m : MethodId} {args : Array Value} {below : List Frame} {meth : Method} {c : Code} {Q : State → Prop} {σ ρ : Type} {O : Ops σ} {ret : Option Value → σ → Option ρ} {r : ρ} {pc nx : Nat}
theorem tlook_mem {α : Type 1} {pc : Nat} {v : α} : ∀ {t : List (Nat × α)}, tlook pc t = some v → (pc, v) ∈ t
  | [], h => by simp [tlook] at h
  | q :: t, h => by
    unfold tlook at h
    cases hb : Nat.beq pc q.1 with
    | true =>
      rw [hb] at h
      cases h
      have := Nat.eq_of_beq_eq_true hb
      subst this
      exact List.mem_cons_self
    | false =>
      rw [hb] at h
      exact List.mem_cons_of_mem _ (tlook_mem h)
/-- a walk that comes to its end is the machine's walk -/
theorem ex_good {tab : List (Nat × Ins σ)} (hT : ∀ q ∈ tab, OKi G A nL n0 sl0 ad0 p l e R s m args below meth c Q O ret r q.1 q.2) {cut : List Nat} {κ : Kn σ ρ} (hκ : ∀ pc' ls' st' x', κ pc' ls' st' x' = some r → Gd G A nL n0 sl0 ad0 p l e R s m args below meth c Q O pc' ls' st' x') : ∀ (n pc : Nat) (ls : Lcs) (st : List Value) (x : σ), ex tab ret cut κ n pc ls st x = some r → Gd G A nL n0 sl0 ad0 p l e R s m args below meth c Q O pc ls st x
  | 0, pc, ls, st, x, h => by cases h
  | n + 1, pc, ls, st, x, h => by
    unfold ex at h
    split at h
    · cases h
    · rename_i ins hi
      refine hT _ (tlook_mem hi) ls st x _ h (fun pc' ls' st' x' h' => ?_)
      cases hc : cutIn pc' cut with
      | true =>
        rw [hc] at h'
        exact hκ _ _ _ _ h'
      | false =>
        rw [hc] at h'
        exact ex_good hT hκ n pc' ls' st' x' h'
/-- where a walk returns -/
def RetK (G : Gm) (A : Nat → Prop) (cc : ByteArray) (n0 sl0 : Nat) (ad0 : Nat → Nat) (p : Program) (l : Launch) (e : Env) (R : Room) (s : State) (m : MethodId) (args : Array Value) (below : List Frame) (meth : Method) (c : Code) (Q : State → Prop) {σ ρ : Type} (O : Ops σ) (ret : Option Value → σ → Option ρ) (r : ρ) (ins : Instr) (ok : Option Value → Prop) : Prop :=
  ∀ (pc : Nat) (rv : Option Value) (x : σ) (ad : Nat → Nat) (H : Heap) (locs : List Loc) (cells slots : Nat) (lsA : Array Slot), decode cc pc = .ok (ins, 1) → ok rv → ret rv x = some r → Rl G A s n0 sl0 ad0 ad (O.emb x) H locs cells slots → W p l e R s m args below meth c H locs cells slots Q (F0 m pc lsA (rv.map (cv ad)).toList)
abbrev okI (rv : Option Value) : Prop := ∃ v, rv = some (.int v)
abbrev okZ (rv : Option Value) : Prop := ∃ v, rv = some (.int v) ∧ (v = 0 ∨ v = 1)
abbrev okL (rv : Option Value) : Prop := ∃ v, rv = some (.long v)
abbrev okA (rv : Option Value) : Prop := ∃ a, rv = some (.ref a)
abbrev okV (rv : Option Value) : Prop := rv = none
theorem ok_iret (hr : RetK G A cc n0 sl0 ad0 p l e R s m args below meth c Q O ret r .ireturn okI) (d : decode cc pc = .ok (.ireturn, 1)) : OKi G A nL n0 sl0 ad0 p l e R s m args below meth c Q O ret r pc e_iret := by
  intro ls st x k h hk ad H locs cells slots lsA hR hl
  unfold e_iret at h
  split at h
  · exact hr pc _ x ad H locs cells slots lsA d ⟨_, rfl⟩ h hR
  · cases h
theorem ok_zret (hr : RetK G A cc n0 sl0 ad0 p l e R s m args below meth c Q O ret r .ireturn okZ) (d : decode cc pc = .ok (.ireturn, 1)) : OKi G A nL n0 sl0 ad0 p l e R s m args below meth c Q O ret r pc e_zret := by
  intro ls st x k h hk ad H locs cells slots lsA hR hl
  unfold e_zret at h
  split at h
  · obtain ⟨hb, h⟩ := gd_some h
    exact hr pc _ x ad H locs cells slots lsA d ⟨_, rfl, by simpa using hb⟩ h hR
  · cases h
theorem ok_lret (hr : RetK G A cc n0 sl0 ad0 p l e R s m args below meth c Q O ret r .lreturn okL) (d : decode cc pc = .ok (.lreturn, 1)) : OKi G A nL n0 sl0 ad0 p l e R s m args below meth c Q O ret r pc e_lret := by
  intro ls st x k h hk ad H locs cells slots lsA hR hl
  unfold e_lret at h
  split at h
  · exact hr pc _ x ad H locs cells slots lsA d ⟨_, rfl⟩ h hR
  · cases h
theorem ok_aret (hr : RetK G A cc n0 sl0 ad0 p l e R s m args below meth c Q O ret r .areturn okA) (d : decode cc pc = .ok (.areturn, 1)) : OKi G A nL n0 sl0 ad0 p l e R s m args below meth c Q O ret r pc e_aret := by
  intro ls st x k h hk ad H locs cells slots lsA hR hl
  unfold e_aret at h
  split at h
  · exact hr pc _ x ad H locs cells slots lsA d ⟨_, rfl⟩ h hR
  · cases h
theorem ok_vret (hr : RetK G A cc n0 sl0 ad0 p l e R s m args below meth c Q O ret r .return_ okV) (d : decode cc pc = .ok (.return_, 1)) : OKi G A nL n0 sl0 ad0 p l e R s m args below meth c Q O ret r pc e_vret := by
  intro ls st x k h hk ad H locs cells slots lsA hR hl
  unfold e_vret at h
  split at h
  · exact hr pc _ x ad H locs cells slots lsA d rfl h hR
  · cases h
end ADQ
/-- a method's contract out of its walk. ret: what the answer is read as; r: the answer that it comes to -/
theorem runs_core {l : Launch} {G : Gm} {D : Nat} {Y : Md} {σ ρ : Type} {O : Ops σ} {ret : Option Value → σ → Option ρ} {r : ρ} {x x' : σ} {av : List Value} {rv : Option Value} {ins : Instr} {ok : Option Value → Prop}
    (hy : plainFor Y.1 = true) (hent : (ent0 av).length ≤ Y.2.2.1) (hret : ∀ v z, ret v z = some r → v = rv ∧ z = x') (hle : (O.emb x).n ≤ (O.emb x').n ∧ (O.emb x).sl ≤ (O.emb x').sl ∧ (O.emb x').n ≤ 200)
    (hmk : ∀ {p : Program} {e : Env} {R : Room} {s : State} {m : MethodId} {args : Array Value} {below : List Frame} {meth : Method} {c : Code} {H : Heap} {locs : List Loc} {cells slots : Nat} {Qc : Array Value → State → Outcome → State → Prop} {free : Addr → Prop} {v : Option Value} {ad : Nat → Nat} {pc : Nat} {ls : Array Slot}, p.tables.exec = Jvm.exec → c.code = Y.2.1 → meth.sig.returnType = Y.2.2.2 → ok v → (∀ t : State, t.heap = H → s.WarmedH t.vm → Qc args s (.returned (v.map (cv ad))) t) → (∀ q ∈ locs, free q.base) → decode Y.2.1 pc = .ok (ins, 1) → meth.locks = false → W p l e R s m args below meth c H locs cells slots (MQ below Qc args s cells slots free) (F0 m pc ls (v.map (cv ad)).toList))
    (walk : ∀ (A : Nat → Prop) (p : Program) (e : Env) (R : Room) (s : State) (m : MethodId) (args : Array Value) (below : List Frame) (meth : Method) (c : Code) (Q : State → Prop) (ad0 : Nat → Nat), R = { frames := D, cells := (O.emb x').n - (O.emb x).n, slots := (O.emb x').sl - (O.emb x).sl, locals := 40 * D } → meth.name = Y.1.name → Cx G A Y.1.cls Y.2.1 Y.2.2.1 p s m args c → RetK G A Y.2.1 (O.emb x).n (O.emb x).sl ad0 p l e R s m args below meth c Q O ret r ins ok → Gd G A Y.2.2.1 (O.emb x).n (O.emb x).sl ad0 p l e R s m args below meth c Q O 0 (ent av Y.2.2.1) [] x) :
    RunsM l G D Y (O.emb x) av rv (O.emb x') := by
  refine ⟨hle.1, hle.2.1, hle.2.2, fun ad sz hclo hex => ?_⟩
  refine va_MetF (cc := Y.2.1) (maxL := Y.2.2.1) (ret := Y.2.2.2) (ws' := TB) hy rfl ?_
  intro p e s m args below meth c s₁ B hml hv
  obtain ⟨rfl, hsz, hP, hK, hD0, hE⟩ := hv
  have hts := atoms_spec (ws := Cond.code Y.1 Y.2.1 Y.2.2.1 Y.2.2.2 :: TB) B.pre
  subst hsz
  have hD := hD0.self (sz := s.heap.size)
  have hA : ∀ q : Nat, s.heap.size ≤ q → va_A (wsA G ad (O.emb x)) s.heap.size q := fun q h => Or.inr h
  have X : Cx G (va_A (wsA G ad (O.emb x)) s.heap.size) Y.1.cls Y.2.1 Y.2.2.1 p s m ((av.map (cv ad)).toArray) c := ⟨B.exec, B.bytes, hml, findClass_of_methodNamed B.named, fun w hw => hts w (List.mem_cons_of_mem _ hw), hK, hA, hE⟩
  rw [lg_entry_eq]
  refine walk _ p e _ s m _ below meth c _ ad rfl (name_of_methodNamed B.named B.method).1 X ?_ ad s.heap [] 0 0 _ ⟨hP, hD, va_S.rf, hclo, hex, by omega, by omega, fun _ _ => rfl⟩ (ent_ok ad av hent)
  intro pc v z ad2 H locs cells slots lsA d hok hr hR
  obtain ⟨rfl, rfl⟩ := hret v z hr
  have e1 : cells = (O.emb z).n - (O.emb x).n := by have := hR.2.2.2.2.2.1; omega
  have e2 : slots = (O.emb z).sl - (O.emb x).sl := by have := hR.2.2.2.2.2.2.1; omega
  subst e1
  subst e2
  exact hmk B.exec B.bytes B.returns hok (fun t ht hW => ⟨⟨ad2, hR.2.2.2.2.2.2.2, rfl, by rw [ht]; exact hR.1, va_K.moved hW.alike hK, hR.2.1, hR.2.2.2.1⟩, hR.2.2.1.F ht⟩) hR.2.2.1.2.2 d B.notSynchronized
