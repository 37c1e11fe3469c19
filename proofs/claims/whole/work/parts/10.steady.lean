/-! the state once both objects stand: ints, longs, and which formula is read, which is the draft -/
abbrev SS : Type := (Nat → Nat → Int32) × (Nat → Nat → Int64) × Nat × Nat
def SHf (a : Nat) : Nat × Nat := bif nlt a 56 then (bif nlt a 28 then (bif nlt a 14 then (bif nlt a 7 then (bif nlt a 3 then (bif nlt a 1 then ((11, 15)) else (bif nlt a 2 then ((9, 8)) else ((100, 6)))) else (bif nlt a 5 then (bif nlt a 4 then ((100, 7)) else ((100, 7))) else (bif nlt a 6 then ((100, 24)) else ((100, 7))))) else (bif nlt a 10 then (bif nlt a 8 then ((2, 4)) else (bif nlt a 9 then ((100, 6)) else ((100, 6)))) else (bif nlt a 12 then (bif nlt a 11 then ((100, 7)) else ((8, 5))) else (bif nlt a 13 then ((100, 120)) else ((3, 8)))))) else (bif nlt a 21 then (bif nlt a 17 then (bif nlt a 15 then ((100, 126)) else (bif nlt a 16 then ((100, 126)) else ((100, 126)))) else (bif nlt a 19 then (bif nlt a 18 then ((100, 126)) else ((100, 120))) else (bif nlt a 20 then ((100, 120)) else ((3, 8))))) else (bif nlt a 24 then (bif nlt a 22 then ((100, 126)) else (bif nlt a 23 then ((100, 126)) else ((100, 126)))) else (bif nlt a 26 then (bif nlt a 25 then ((100, 126)) else ((100, 120))) else (bif nlt a 27 then ((100, 120)) else ((4, 4))))))) else (bif nlt a 42 then (bif nlt a 35 then (bif nlt a 31 then (bif nlt a 29 then ((100, 1440)) else (bif nlt a 30 then ((10, 4)) else ((2, 4)))) else (bif nlt a 33 then (bif nlt a 32 then ((100, 6)) else ((100, 6))) else (bif nlt a 34 then ((100, 7)) else ((5, 11))))) else (bif nlt a 38 then (bif nlt a 36 then ((2, 4)) else (bif nlt a 37 then ((100, 6)) else ((100, 6)))) else (bif nlt a 40 then (bif nlt a 39 then ((100, 7)) else ((104, 2))) else (bif nlt a 41 then ((2, 4)) else ((100, 6)))))) else (bif nlt a 49 then (bif nlt a 45 then (bif nlt a 43 then ((100, 6)) else (bif nlt a 44 then ((100, 7)) else ((2, 4)))) else (bif nlt a 47 then (bif nlt a 46 then ((100, 6)) else ((100, 6))) else (bif nlt a 48 then ((100, 7)) else ((6, 3))))) else (bif nlt a 52 then (bif nlt a 50 then ((100, 168)) else (bif nlt a 51 then ((1, 6)) else ((100, 40)))) else (bif nlt a 54 then (bif nlt a 53 then ((100, 40)) else ((100, 40))) else (bif nlt a 55 then ((100, 40)) else ((0, 5)))))))) else (bif nlt a 84 then (bif nlt a 70 then (bif nlt a 63 then (bif nlt a 59 then (bif nlt a 57 then ((100, 50)) else (bif nlt a 58 then ((100, 24)) else ((7, 4)))) else (bif nlt a 61 then (bif nlt a 60 then ((100, 6)) else ((100, 6))) else (bif nlt a 62 then ((100, 6)) else ((105, 6))))) else (bif nlt a 66 then (bif nlt a 64 then ((101, 60)) else (bif nlt a 65 then ((101, 60)) else ((101, 60)))) else (bif nlt a 68 then (bif nlt a 67 then ((101, 60)) else ((101, 60))) else (bif nlt a 69 then ((101, 60)) else ((100, 6)))))) else (bif nlt a 77 then (bif nlt a 73 then (bif nlt a 71 then ((2, 4)) else (bif nlt a 72 then ((100, 6)) else ((100, 6)))) else (bif nlt a 75 then (bif nlt a 74 then ((100, 7)) else ((12, 63))) else (bif nlt a 76 then ((100, 24)) else ((100, 7))))) else (bif nlt a 80 then (bif nlt a 78 then ((100, 7)) else (bif nlt a 79 then ((100, 7)) else ((100, 12)))) else (bif nlt a 82 then (bif nlt a 81 then ((100, 12)) else ((100, 6))) else (bif nlt a 83 then ((100, 6)) else ((100, 6))))))) else (bif nlt a 98 then (bif nlt a 91 then (bif nlt a 87 then (bif nlt a 85 then ((100, 6)) else (bif nlt a 86 then ((100, 40)) else ((100, 40)))) else (bif nlt a 89 then (bif nlt a 88 then ((100, 40)) else ((100, 40))) else (bif nlt a 90 then ((102, 120)) else ((102, 260))))) else (bif nlt a 94 then (bif nlt a 92 then ((100, 260)) else (bif nlt a 93 then ((100, 2)) else ((103, 122)))) else (bif nlt a 96 then (bif nlt a 95 then ((103, 122)) else ((100, 6))) else (bif nlt a 97 then ((100, 130)) else ((100, 6)))))) else (bif nlt a 105 then (bif nlt a 101 then (bif nlt a 99 then ((100, 6)) else (bif nlt a 100 then ((100, 7)) else ((100, 6)))) else (bif nlt a 103 then (bif nlt a 102 then ((100, 175)) else ((100, 78))) else (bif nlt a 104 then ((100, 91)) else ((100, 6))))) else (bif nlt a 109 then (bif nlt a 107 then (bif nlt a 106 then ((100, 6)) else ((100, 7))) else (bif nlt a 108 then ((100, 50)) else ((100, 24)))) else (bif nlt a 111 then (bif nlt a 110 then ((100, 6)) else ((100, 6))) else (bif nlt a 112 then ((101, 360)) else ((101, 60))))))))
def RFl (tr td a : Nat) : List (Option Nat) := bif nlt a 35 then (bif nlt a 20 then (bif nlt a 7 then (bif nlt a 1 then (bif Nat.beq a 0 then [some 1, some 7, some 11, some 27, some 29, some 34, some 48, some 50, some 55, some 58, some 69, some 70] else []) else (bif Nat.beq a 1 then [none, none, none, some 2, some 3, some 4, some 5, some 6] else [])) else (bif nlt a 11 then (bif Nat.beq a 7 then [some 8, some 9, some 10] else []) else (bif nlt a 13 then (bif Nat.beq a 11 then [none, some 12, none, some tr, some td] else []) else (bif Nat.beq a 13 then [some 14, some 15, some 16, some 17, some 18, some 19] else [])))) else (bif nlt a 29 then (bif nlt a 27 then (bif Nat.beq a 20 then [some 21, some 22, some 23, some 24, some 25, some 26] else []) else (bif Nat.beq a 27 then [some 1, some 11, some 28] else [])) else (bif nlt a 30 then (bif Nat.beq a 29 then [some 1, some 27, some 30] else []) else (bif nlt a 34 then (bif Nat.beq a 30 then [some 31, some 32, some 33] else []) else (bif Nat.beq a 34 then [some 1, some 27, some 29, some 35, some 39] else []))))) else (bif nlt a 50 then (bif nlt a 40 then (bif nlt a 39 then (bif Nat.beq a 35 then [some 36, some 37, some 38] else []) else (bif Nat.beq a 39 then [some 40, some 44] else [])) else (bif nlt a 44 then (bif Nat.beq a 40 then [some 41, some 42, some 43] else []) else (bif nlt a 48 then (bif Nat.beq a 44 then [some 45, some 46, some 47] else []) else (bif Nat.beq a 48 then [some 1, some 27, some 49] else [])))) else (bif nlt a 62 then (bif nlt a 55 then (bif Nat.beq a 50 then [none, none, some 51, some 52, some 53, some 54] else []) else (bif nlt a 58 then (bif Nat.beq a 55 then [none, none, some 56, some 57] else []) else (bif Nat.beq a 58 then [some 59, some 60, some 61, some 62] else []))) else (bif nlt a 70 then (bif Nat.beq a 62 then [some 63, some 64, some 65, some 66, some 67, some 68] else []) else (bif nlt a 74 then (bif Nat.beq a 70 then [some 71, some 72, some 73] else []) else (bif Nat.beq a 74 then [none, none, some 75, none, none, some 76, some 77, some 78, none, some 79, some 80, none, some 81, some 82, some 83, some 84, none, none, some 85, some 86, some 87, some 88, some 89, none, none, none, none, none, some 90, some 91, some 92, some 93, some 94, some 95, some 96, none, some 97, some 98, some 99, some 100, none, some 101, some 102, some 103, none, none, none, none, none, none, none, none, some 104, some 105, some 106, none, some 107, none, some 108, some 109, some 110, some 111, some 112] else [])))))
def RF (tr td a k : Nat) : Option Nat := (RFl tr td a).getD k none
def embS (s : SS) : AH := (113, 6344, SHf, s.1, s.2.1, RF s.2.2.1 s.2.2.2)
def wIS (s : SS) (a : Nat) (f : Nat → Int32) : SS := (va_up s.1 a f, s.2)
def wLS (s : SS) (a : Nat) (f : Nat → Int64) : SS := (s.1, va_up s.2.1 a f, s.2.2)
def wRS (s : SS) (a kf v : Nat) : Option SS := bif Nat.beq a 11 && Nat.beq kf 3 then some (s.1, s.2.1, v, s.2.2.2) else bif Nat.beq a 11 && Nat.beq kf 4 then some (s.1, s.2.1, s.2.2.1, v) else none
def opsS : Ops SS := (embS, wIS, wLS, wRS, fun _ _ => none)
theorem RF_r (tr td v : Nat) : RF v td = va_up (RF tr td) 11 (va_up (RF tr td 11) 3 (some v)) := by
  funext a k
  by_cases ha : a = 11
  · subst ha
    rw [va_up_self]
    match k with
    | 0 => rfl
    | 1 => rfl
    | 2 => rfl
    | 3 => rfl
    | 4 => rfl
    | k + 5 => rfl
  · rw [va_up_ne _ _ ha]
    unfold RF RFl
    have : Nat.beq a 11 = false := by
      cases hb : Nat.beq a 11
      · rfl
      · exact absurd (Nat.eq_of_beq_eq_true hb) ha
    simp only [this, cond_false]
theorem RF_d (tr td v : Nat) : RF tr v = va_up (RF tr td) 11 (va_up (RF tr td 11) 4 (some v)) := by
  funext a k
  by_cases ha : a = 11
  · subst ha
    rw [va_up_self]
    match k with
    | 0 => rfl
    | 1 => rfl
    | 2 => rfl
    | 3 => rfl
    | 4 => rfl
    | k + 5 => rfl
  · rw [va_up_ne _ _ ha]
    unfold RF RFl
    have : Nat.beq a 11 = false := by
      cases hb : Nat.beq a 11
      · rfl
      · exact absurd (Nat.eq_of_beq_eq_true hb) ha
    simp only [this, cond_false]
theorem opsS_ok : OpsOK opsS 0 0 := by
  refine ⟨fun x a f => rfl, fun x a f => rfl, fun x a kf v x' h => ?_, fun x q x' h => by cases h⟩
  have h : wRS x a kf v = some x' := h
  unfold wRS at h
  cases h1 : Nat.beq a 11 && Nat.beq kf 3 with
  | true =>
    rw [h1] at h
    simp only [cond_true] at h
    rw [Bool.and_eq_true] at h1
    have e1 := Nat.eq_of_beq_eq_true h1.1
    have e2 := Nat.eq_of_beq_eq_true h1.2
    subst e1 e2
    cases h
    show (113, 6344, SHf, x.1, x.2.1, RF v x.2.2.2) = _
    rw [RF_r x.2.2.1]
    rfl
  | false =>
    rw [h1] at h
    simp only [cond_false] at h
    cases h2 : Nat.beq a 11 && Nat.beq kf 4 with
    | true =>
      rw [h2] at h
      simp only [cond_true] at h
      rw [Bool.and_eq_true] at h2
      have e1 := Nat.eq_of_beq_eq_true h2.1
      have e2 := Nat.eq_of_beq_eq_true h2.2
      subst e1 e2
      cases h
      show (113, 6344, SHf, x.1, x.2.1, RF x.2.2.1 v) = _
      rw [RF_d x.2.2.1 x.2.2.2]
      rfl
    | false =>
      rw [h2] at h
      cases h
theorem opsS_n : ∀ x, (opsS.emb x).n = 113 ∧ (opsS.emb x).sl = 6344 := fun _ => ⟨rfl, rfl⟩
-- answers, by their kinds
def rI (v : Option Value) (s : SS) : Option (Int32 × SS) := match v with
  | some (.int x) => some (x, s)
  | _ => none
def rL (v : Option Value) (s : SS) : Option (Int64 × SS) := match v with
  | some (.long x) => some (x, s)
  | _ => none
def rA (v : Option Value) (s : SS) : Option (Nat × SS) := match v with
  | some (.ref x) => some (x, s)
  | _ => none
def rV (v : Option Value) (s : SS) : Option SS := match v with
  | none => some s
  | _ => none
theorem rI_of {v : Option Value} {z : SS} {q : Int32 × SS} (h : rI v z = some q) : v = some (.int q.1) ∧ z = q.2 := by
  unfold rI at h
  split at h
  · cases h; exact ⟨rfl, rfl⟩
  · cases h
theorem rL_of {v : Option Value} {z : SS} {q : Int64 × SS} (h : rL v z = some q) : v = some (.long q.1) ∧ z = q.2 := by
  unfold rL at h
  split at h
  · cases h; exact ⟨rfl, rfl⟩
  · cases h
theorem rA_of {v : Option Value} {z : SS} {q : Nat × SS} (h : rA v z = some q) : v = some (.ref q.1) ∧ z = q.2 := by
  unfold rA at h
  split at h
  · cases h; exact ⟨rfl, rfl⟩
  · cases h
theorem rV_of {v : Option Value} {z q : SS} (h : rV v z = some q) : v = none ∧ z = q := by
  unfold rV at h
  split at h
  · cases h; exact ⟨rfl, rfl⟩
  · cases h
abbrev Wk (l : Launch) (G : Gm) (D : Nat) (Y : Md) {ρ : Type} (ret : Option Value → SS → Option ρ) (r : ρ) (ins : Instr) (ok : Option Value → Prop) (av : List Value) (x : SS) : Prop := ∀ (A : Nat → Prop) (p : Program) (e : Env) (R : Room) (s : State) (m : MethodId) (args : Array Value) (below : List Frame) (meth : Method) (c : Code) (Q : State → Prop) (ad0 : Nat → Nat), R = { frames := D, cells := 0, slots := 0, locals := 40 * D } → Cx G A Y.1.cls Y.2.1 Y.2.2.1 p s m args c → RetK G A Y.2.1 113 6344 ad0 p l e R s m args below meth c Q opsS ret r ins ok → Gd G A Y.2.2.1 113 6344 ad0 p l e R s m args below meth c Q opsS 0 (ent av Y.2.2.1) [] x
theorem roomS (D : Nat) (x y : SS) : ({ frames := D, cells := (opsS.emb y).n - (opsS.emb x).n, slots := (opsS.emb y).sl - (opsS.emb x).sl, locals := 40 * D } : Room) = { frames := D, cells := 0, slots := 0, locals := 40 * D } := by
  have h1 : (opsS.emb y).n - (opsS.emb x).n = 0 := Nat.sub_self 113
  have h2 : (opsS.emb y).sl - (opsS.emb x).sl = 0 := Nat.sub_self 6344
  rw [h1, h2]
section RNS
variable {l : Launch} {G : Gm} {D : Nat} {Y : Md} {x : SS} {av : List Value}
theorem runs_I {q : Int32 × SS} (hy : plainFor Y.1 = true) (hent : (ent0 av).length ≤ Y.2.2.1) (hrt : Y.2.2.2 = some .int) (walk : Wk l G D Y rI q .ireturn okI av x) : RunsM l G D Y (embS x) av (some (.int q.1)) (embS q.2) :=
  runs_core (O := opsS) (x' := q.2) hy hent (fun v z h => rI_of h) ⟨Nat.le_refl _, Nat.le_refl _, (show 113 ≤ 200 by decide)⟩ (fun hx hb hr hok hq hf d hl => by
    obtain ⟨v, rfl⟩ := hok
    exact W.iret hx hb (hr.trans hrt) hq hf d hl) (fun A p e R s m args below meth c Q ad0 hR _ X hr => walk A p e R s m args below meth c Q ad0 (hR.trans (roomS D _ _)) X hr)
theorem runs_Z {q : Int32 × SS} (hy : plainFor Y.1 = true) (hent : (ent0 av).length ≤ Y.2.2.1) (hrt : Y.2.2.2 = some .boolean) (walk : Wk l G D Y rI q .ireturn okZ av x) : RunsM l G D Y (embS x) av (some (.int q.1)) (embS q.2) :=
  runs_core (O := opsS) (x' := q.2) hy hent (fun v z h => rI_of h) ⟨Nat.le_refl _, Nat.le_refl _, (show 113 ≤ 200 by decide)⟩ (fun hx hb hr hok hq hf d hl => by
    obtain ⟨v, rfl, hv⟩ := hok
    exact W.zret hx hb (hr.trans hrt) (by rcases hv with z | z <;> subst z <;> rfl) hq hf d hl) (fun A p e R s m args below meth c Q ad0 hR _ X hr => walk A p e R s m args below meth c Q ad0 (hR.trans (roomS D _ _)) X hr)
theorem runs_B {q : Int32 × SS} (hy : plainFor Y.1 = true) (hent : (ent0 av).length ≤ Y.2.2.1) (hrt : Y.2.2.2 = some .byte) (walk : Wk l G D Y rI q .ireturn okZ av x) : RunsM l G D Y (embS x) av (some (.int q.1)) (embS q.2) :=
  runs_core (O := opsS) (x' := q.2) hy hent (fun v z h => rI_of h) ⟨Nat.le_refl _, Nat.le_refl _, (show 113 ≤ 200 by decide)⟩ (fun hx hb hr hok hq hf d hl => by
    obtain ⟨v, rfl, hv⟩ := hok
    exact W.zret hx hb (hr.trans hrt) (by rcases hv with z | z <;> subst z <;> rfl) hq hf d hl) (fun A p e R s m args below meth c Q ad0 hR _ X hr => walk A p e R s m args below meth c Q ad0 (hR.trans (roomS D _ _)) X hr)
theorem runs_L {q : Int64 × SS} (hy : plainFor Y.1 = true) (hent : (ent0 av).length ≤ Y.2.2.1) (hrt : Y.2.2.2 = some .long) (walk : Wk l G D Y rL q .lreturn okL av x) : RunsM l G D Y (embS x) av (some (.long q.1)) (embS q.2) :=
  runs_core (O := opsS) (x' := q.2) hy hent (fun v z h => rL_of h) ⟨Nat.le_refl _, Nat.le_refl _, (show 113 ≤ 200 by decide)⟩ (fun hx hb hr hok hq hf d hl => by
    obtain ⟨v, rfl⟩ := hok
    exact W.lret hx hb (hr.trans hrt) hq hf d hl) (fun A p e R s m args below meth c Q ad0 hR _ X hr => walk A p e R s m args below meth c Q ad0 (hR.trans (roomS D _ _)) X hr)
theorem runs_A {q : Nat × SS} {cn : String} (hy : plainFor Y.1 = true) (hent : (ent0 av).length ≤ Y.2.2.1) (hrt : Y.2.2.2 = some (.object cn)) (walk : Wk l G D Y rA q .areturn okA av x) : RunsM l G D Y (embS x) av (some (.ref q.1)) (embS q.2) :=
  runs_core (O := opsS) (x' := q.2) hy hent (fun v z h => rA_of h) ⟨Nat.le_refl _, Nat.le_refl _, (show 113 ≤ 200 by decide)⟩ (fun hx hb hr hok hq hf d hl => by
    obtain ⟨v, rfl⟩ := hok
    exact W.aret hx hb (hr.trans hrt) (Or.inl ⟨_, rfl⟩) (Or.inr ⟨_, rfl⟩) hq hf d hl) (fun A p e R s m args below meth c Q ad0 hR _ X hr => walk A p e R s m args below meth c Q ad0 (hR.trans (roomS D _ _)) X hr)
theorem runs_V {q : SS} (hy : plainFor Y.1 = true) (hent : (ent0 av).length ≤ Y.2.2.1) (hrt : Y.2.2.2 = none) (walk : Wk l G D Y rV q .return_ okV av x) : RunsM l G D Y (embS x) av none (embS q) :=
  runs_core (O := opsS) (x' := q) hy hent (fun v z h => rV_of h) ⟨Nat.le_refl _, Nat.le_refl _, (show 113 ≤ 200 by decide)⟩ (fun hx hb hr hok hq hf d hl => by
    cases hok
    exact W.vret hx hb (hr.trans hrt) hq hf d hl) (fun A p e R s m args below meth c Q ad0 hR _ X hr => walk A p e R s m args below meth c Q ad0 (hR.trans (roomS D _ _)) X hr)
end RNS
-- calls by a table of entries
abbrev En : Type 1 := (ρ : Type) → List Value → SS → (Option Value → SS → Option ρ) → Option ρ
def calE (es : List (Nat × En)) : Cal SS := fun ρ y av s k => match tlook y es with
  | some en => en ρ av s k
  | none => none
def enOK (l : Launch) (G : Gm) (D : Nat) (y : Nat) (en : En) : Prop := ∀ (ρ : Type) (av : List Value) (x : SS) (k : Option Value → SS → Option ρ) (r : ρ), en ρ av x k = some r → ∃ rv x', k rv x' = some r ∧ RunsM l G D (md y) (embS x) av rv (embS x')
theorem calE_ok {l : Launch} {G : Gm} {D : Nat} {es : List (Nat × En)} (h : ∀ q ∈ es, enOK l G D q.1 q.2) : calOK l G opsS D (calE es) := by
  intro ρ y av x k r hr
  unfold calE at hr
  split at hr
  · rename_i en he
    exact h _ (tlook_mem he) ρ av x k r hr
  · cases hr
def bI {ρ : Type} (x : Option (Int32 × SS)) (k : Option Value → SS → Option ρ) : Option ρ := x.bind fun q => k (some (.int q.1)) q.2
def bL {ρ : Type} (x : Option (Int64 × SS)) (k : Option Value → SS → Option ρ) : Option ρ := x.bind fun q => k (some (.long q.1)) q.2
def bA {ρ : Type} (x : Option (Nat × SS)) (k : Option Value → SS → Option ρ) : Option ρ := x.bind fun q => k (some (.ref q.1)) q.2
def bV {ρ : Type} (x : Option SS) (k : Option Value → SS → Option ρ) : Option ρ := x.bind fun q => k none q
theorem bind_of {α ρ : Type} {x : Option α} {k : α → Option ρ} {r : ρ} (h : x.bind k = some r) : ∃ q, x = some q ∧ k q = some r := by
  cases x with
  | none => cases h
  | some q => exact ⟨q, rfl, h⟩

