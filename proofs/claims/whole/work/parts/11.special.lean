def pI (s : SS) (a k : Nat) (v : Int32) : SS := wIS s a (va_up (s.1 a) k v)
def pL (s : SS) (a k : Nat) (v : Int64) : SS := wLS s a (va_up (s.2.1 a) k v)
def cI (s : SS) (a sp b dp n : Nat) : SS := wIS s b (va_cpy (s.1 a) (s.1 b) sp dp n)
def cL (s : SS) (a sp b dp n : Nat) : SS := wLS s b (va_cpy (s.2.1 a) (s.2.1 b) sp dp n)
def jrem (x y : Int32) : Int32 := x - x / y * y
def jremL (x y : Int64) : Int64 := x - x / y * y
theorem fuel0_ex : ∃ n : Nat, n = 2000 := ⟨_, rfl⟩
noncomputable def fuel0 : Nat := Classical.choose fuel0_ex
theorem fuel0_eq : fuel0 = 2000 := Classical.choose_spec fuel0_ex
theorem fuelR_ex : ∃ n : Nat, n = 100 := ⟨_, rfl⟩
noncomputable def fuelR : Nat := Classical.choose fuelR_ex
theorem fuelR_eq : fuelR = 100 := Classical.choose_spec fuelR_ex
def nameIx (c : Int32) : Int32 := if c = 103 then 0 else if c = 110 then 1 else if c = 98 then 2 else if c = 104 then 3 else if c = 112 then 4 else if c = 111 then 5 else -1
def veq : Value → Value → Bool
  | .ref a, .ref b => Nat.beq a b
  | .null, .null => true
  | _, _ => false
theorem veq_of {a b : Value} (h : veq a b = true) : a = b := by
  unfold veq at h
  split at h
  · exact congrArg Value.ref (Nat.eq_of_beq_eq_true h)
  · rfl
  · cases h
def rT (v : Option Value) (s : SS) : Option SS := match v with
  | some (.ref 30) => some s
  | _ => none
theorem rT_of {v : Option Value} {z q : SS} (h : rT v z = some q) : v = some (.ref 30) ∧ z = q := by
  unfold rT at h
  split at h
  · cases h; exact ⟨rfl, rfl⟩
  · cases h
theorem runs_T {l : Launch} {G : Gm} {D : Nat} {Y : Md} {x : SS} {av : List Value} {q : SS} {cn : String} (hy : plainFor Y.1 = true) (hent : (ent0 av).length ≤ Y.2.2.1) (hrt : Y.2.2.2 = some (.object cn)) (walk : Wk l G D Y rT q .areturn okA av x) : RunsM l G D Y (embS x) av (some (.ref 30)) (embS q) :=
  runs_core (O := opsS) (x' := q) hy hent (fun v z h => rT_of h) ⟨Nat.le_refl _, Nat.le_refl _, (show 113 ≤ 200 by decide)⟩ (fun hx hb hr hok hq hf d hl => by
    obtain ⟨v, rfl⟩ := hok
    exact W.aret hx hb (hr.trans hrt) (Or.inl ⟨_, rfl⟩) (Or.inr ⟨_, rfl⟩) hq hf d hl) (fun A p e R s m args below meth c Q ad0 hR _ X hr => walk A p e R s m args below meth c Q ad0 (hR.trans (roomS D _ _)) X hr)
def bT {ρ : Type} (x : Option SS) (k : Option Value → SS → Option ρ) : Option ρ := x.bind fun q => k (some (.ref 30)) q
-- locals that are no more needed
def Lle (a b : Lcs) : Prop := a.length = b.length ∧ ∀ (i : Nat) (v : Value), a[i]? = some (some v) → b[i]? = some (some v)
theorem Lle.nil : Lle [] [] := ⟨rfl, fun _ _ h => h⟩
theorem Lle.no {a b : Lcs} {v : Option Value} (h : Lle a b) : Lle (none :: a) (v :: b) := ⟨congrArg (· + 1) h.1, fun i w hw => by
  match i, hw with
  | 0, hw => cases hw
  | i + 1, hw => exact h.2 i w hw⟩
theorem Lle.eq {a b : Lcs} {v : Option Value} (h : Lle a b) : Lle (v :: a) (v :: b) := ⟨congrArg (· + 1) h.1, fun i w hw => by
  match i, hw with
  | 0, hw => exact hw
  | i + 1, hw => exact h.2 i w hw⟩
section OKX
variable {ad0 : Nat → Nat} {G : Gm} {A : Nat → Prop} {own : String} {cc : ByteArray} {nL n0 sl0 : Nat} {p : Program} {l : Launch} {e : Env} {R : Room} {s : State} {m : MethodId} {args : Array Value} {below : List Frame} {meth : Method} {c : Code} {Q : State → Prop} {ρ : Type} {ret : Option Value → SS → Option ρ} {r : ρ} {pc nx : Nat} {D : Nat}
theorem Gd.wk {σ : Type} {O : Ops σ} {ls ls' : Lcs} {st : List Value} {x : σ} (h : Gd G A nL n0 sl0 ad0 p l e R s m args below meth c Q O pc ls st x) (hl : Lle ls ls') : Gd G A nL n0 sl0 ad0 p l e R s m args below meth c Q O pc ls' st x := by
  intro ad H locs cells slots lsA hR hv
  exact h ad H locs cells slots lsA hR ⟨hv.1, hl.1.trans hv.2.1, hv.2.2.1, fun i v hi => hv.2.2.2 i v (hl.2 i v hi)⟩
theorem rm26 {D : Nat} (h : ∀ k, k ≤ 21 → D + 1 ≤ R.frames ∧ 8 + (k + 11) + 40 * D ≤ R.locals) : 1 ≤ R.frames ∧ 26 ≤ R.locals := by
  have := h 21 (by decide)
  omega
theorem rmD {D' : Nat} (hD : D' + 1 = D) (hR : R = { frames := D, cells := 0, slots := 0, locals := 40 * D }) : ∀ k, k ≤ 21 → D' + 1 ≤ R.frames ∧ 8 + (k + 11) + 40 * D' ≤ R.locals := by
  intro k hk
  subst hR
  subst hD
  exact ⟨Nat.le_refl _, by show 8 + (k + 11) + 40 * D' ≤ 40 * (D' + 1); omega⟩
/-- a row of references whose cells stand one behind another -/
noncomputable def e_aaldS (cell base stride cnt nx : Nat) : Ins SS := fun _ _ _ ls st s k => match st with
  | .int i :: .ref a :: r => gd (Nat.beq a cell && inb i cnt) (k nx ls (.ref (base + stride * i.toNatClampNeg) :: r) s)
  | _ => none
noncomputable def e_laldE (nx : Nat) : Ins SS := fun _ _ _ ls st s k => match st with
  | .int i :: .ref a :: r => gd (Nat.ble 63 a && nlt a 69 && inb i 60) (k nx ls (.long (s.2.1 a i.toNatClampNeg) :: r) s)
  | _ => none
noncomputable def e_lastE (nx : Nat) : Ins SS := fun _ _ _ ls st s k => match st with
  | .long v :: .int i :: .ref a :: r => gd (Nat.ble 63 a && nlt a 69 && inb i 60) (k nx ls r (pL s a i.toNatClampNeg v))
  | _ => none
def e_copyLE (nx : Nat) : Ins SS := fun _ _ _ ls st s k => match st with
  | .int n :: .int dp :: .ref b :: .int sp :: .ref a :: r => gd (Nat.ble 63 a && nlt a 69 && (Nat.ble 63 b && nlt b 69) && !(decide (n < 0)) && cpin sp n 60 && cpin dp n 60) (gd (Nat.ble (r.map fun v => v.category).sum 8) (k nx ls r (cL s a sp.toNatClampNeg b dp.toNatClampNeg n.toNatClampNeg)))
  | _ => none
theorem shE {a : Nat} (h : (Nat.ble 63 a && nlt a 69) = true) : isK (embS (fun _ _ => 0, fun _ _ => 0, 0, 0)) a 101 = true ∧ SHf a = (101, 60) := by
  rw [Bool.and_eq_true] at h
  have h1 := Nat.le_of_ble_eq_true h.1
  have h2 : a < 69 := Nat.le_of_ble_eq_true h.2
  rcases (show a = 63 ∨ a = 64 ∨ a = 65 ∨ a = 66 ∨ a = 67 ∨ a = 68 by omega) with rfl | rfl | rfl | rfl | rfl | rfl <;> exact ⟨rfl, rfl⟩
theorem ok_laldE (X : Cx G A own cc nL p s m args c) (d : decode cc pc = .ok (.laload, 1)) (hn : pc + 1 = nx) : OKi G A nL n0 sl0 ad0 p l e R s m args below meth c Q opsS ret r pc (e_laldE nx) := by
  intro ls st x k h hk
  refine ok_lald (O := opsS) (ret := ret) (r := r) X d hn ls st x k ?_ hk
  unfold e_laldE at h
  unfold e_lald
  split at h
  · rename_i i a q
    obtain ⟨hb, h⟩ := gd_some h
    rw [Bool.and_eq_true] at hb
    obtain ⟨h1, h2⟩ := shE hb.1
    show gd (isK (embS x) a 101 && inb i (SHf a).2) _ = _
    rw [show isK (embS x) a 101 = true from h1, h2, hb.2]
    exact h
  · cases h
theorem ok_lastE (X : Cx G A own cc nL p s m args c) (d : decode cc pc = .ok (.lastore, 1)) (hn : pc + 1 = nx) : OKi G A nL n0 sl0 ad0 p l e R s m args below meth c Q opsS ret r pc (e_lastE nx) := by
  intro ls st x k h hk
  refine ok_last (O := opsS) (ret := ret) (r := r) X opsS_ok d hn ls st x k ?_ hk
  unfold e_lastE at h
  unfold e_last
  split at h
  · rename_i v i a q
    obtain ⟨hb, h⟩ := gd_some h
    rw [Bool.and_eq_true] at hb
    obtain ⟨h1, h2⟩ := shE hb.1
    show gd (isK (embS x) a 101 && inb i (SHf a).2) _ = _
    rw [show isK (embS x) a 101 = true from h1, h2, hb.2]
    exact h
  · cases h
theorem ok_copyLE (X : Cx G A own cc nL p s m args c) {idx : Nat} (hl0 : Cond.methodLink own idx arraycopyName ∈ TB) (hnat : Cond.native arraycopyName ∈ TB) (hst : Cond.static arraycopyName ∈ TB) (hin : Cond.initialized "java/lang/System" ∈ TB) (hRm : 1 ≤ R.frames ∧ 26 ≤ R.locals) (d : decode cc pc = .ok (.invokestatic idx, 3)) (hn : pc + 3 = nx) : OKi G A nL n0 sl0 ad0 p l e R s m args below meth c Q opsS ret r pc (e_copyLE nx) := by
  intro ls st x k h hk
  refine ok_copyL (O := opsS) (ret := ret) (r := r) X opsS_ok hl0 hnat hst hin hRm d hn ls st x k ?_ hk
  unfold e_copyLE at h
  unfold e_copyL
  split at h
  · rename_i n dp b sp a q
    obtain ⟨hb, h⟩ := gd_some h
    obtain ⟨hs, h⟩ := gd_some h
    simp only [Bool.and_eq_true] at hb
    obtain ⟨⟨⟨⟨⟨a1, a2⟩, ⟨b1, b2⟩⟩, h3⟩, h4⟩, h5⟩ := hb
    obtain ⟨k1, k2⟩ := shE (a := a) (by rw [a1, a2]; rfl)
    obtain ⟨k3, k4⟩ := shE (a := b) (by rw [b1, b2]; rfl)
    show gd (isK (embS x) a 101 && isK (embS x) b 101 && !(decide (n < 0)) && cpin sp n (SHf a).2 && cpin dp n (SHf b).2 && _) _ = _
    rw [show isK (embS x) a 101 = true from k1, show isK (embS x) b 101 = true from k3, k2, k4, h3, h4, h5, hs]
    exact h
  · cases h
theorem ok_aaldB (X : Cx G A own cc nL p s m args c) (d : decode cc pc = .ok (.aaload, 1)) (hn : pc + 1 = nx) : OKi G A nL n0 sl0 ad0 p l e R s m args below meth c Q opsS ret r pc (e_aaldS 39 40 4 2 nx) := by
  intro ls st x k h hk
  refine ok_aaldD (O := opsS) (ret := ret) (r := r) X d hn ls st x k ?_ hk
  unfold e_aaldS at h
  unfold e_aald
  split at h
  · rename_i i a q
    obtain ⟨hb, h9⟩ := gd_some h
    rw [Bool.and_eq_true] at hb
    have ha := Nat.eq_of_beq_eq_true hb.1
    subst ha
    have h := h9
    have hi : inb i 2 = true := hb.2
    have hv := inb_of hi
    have hv2 : i.toNatClampNeg < 2 := Nat.lt_of_not_le (fun z => hv (Or.inr z))
    show gd (inb i 2) _ = _
    rw [hi]
    show k nx ls (va_rf (RF x.2.2.1 x.2.2.2 39 i.toNatClampNeg) :: q) x = _
    rcases (show i.toNatClampNeg = 0 ∨ i.toNatClampNeg = 1 by omega) with z | z <;> rw [z] at h ⊢ <;> exact h
  · cases h
/-- long[][]: its rows -/
theorem ok_aaldE (X : Cx G A own cc nL p s m args c) (d : decode cc pc = .ok (.aaload, 1)) (hn : pc + 1 = nx) : OKi G A nL n0 sl0 ad0 p l e R s m args below meth c Q opsS ret r pc (e_aaldS 62 63 1 6 nx) := by
  intro ls st x k h hk ad H locs cells slots lsA hR hl
  subst hn
  unfold e_aaldS at h
  split at h
  · rename_i i a q
    obtain ⟨hb, h9⟩ := gd_some h
    rw [Bool.and_eq_true] at hb
    have ha := Nat.eq_of_beq_eq_true hb.1
    subst ha
    have h := h9
    have hi : inb i 6 = true := hb.2
    have hv := inb_of hi
    have hv2 : i.toNatClampNeg < 6 := Nat.lt_of_not_le (fun z => hv (Or.inr z))
    have hg := hk _ _ _ _ h ad H locs cells slots lsA hR hl
    have hw : (wsA G ad (embS x))[62]? = some (ad 62, cE G ad (embS x) 62) := wsA_get (h := embS x) (show 62 < 113 by decide)
    have hP := hR.1 62 _ hw
    have hc : cE G ad (embS x) 62 = .inl (G.cy 5, 6, .inr (.inr (.inr (.inr (fun j => ((embS x).R 62 j).map ad))))) := cE_ref (h := embS x) (i := 62) (kd := 105) rfl (by decide)
    rw [hc] at hP
    have hP : H[ad 62]? = some (arrV (G.cy 5) 6 (fun j => va_rf (((embS x).R 62 j).map ad))) := hP
    have hA := (X.2.2.2.2.2.1.2 5 _ rfl).1
    have e9 : va_rf (((embS x).R 62 i.toNatClampNeg).map ad) = .ref (ad (63 + 1 * i.toNatClampNeg)) := by
      show va_rf ((RF x.2.2.1 x.2.2.2 62 i.toNatClampNeg).map ad) = _
      rcases (show i.toNatClampNeg = 0 ∨ i.toNatClampNeg = 1 ∨ i.toNatClampNeg = 2 ∨ i.toNatClampNeg = 3 ∨ i.toNatClampNeg = 4 ∨ i.toNatClampNeg = 5 by omega) with z | z | z | z | z | z <;> rw [z] <;> rfl
    refine W.aald (v := .ref (ad (63 + 1 * i.toNatClampNeg))) (ty := .array .long) X.1 X.2.1 hP (hA 6 _) rfl (fun q => by cases q) (by show ¬ (i < 0 ∨ (arrV _ _ _).slots.size ≤ _); rw [arrV_size]; exact hv) (by show (arrV _ _ _).slots[_]? = _; rw [arrV_read _ _ hv2, e9]) rfl rfl d ?_
    exact hg
  · cases h
end OKX
-- switches
theorem lsw_ok (pc : Nat) (d : Int) : ∀ (ps : List (Int × Int)), (ps.all (fun q => decide ((Int32.ofInt q.1).toInt = q.1) && decide (0 ≤ (pc : Int) + q.2)) && decide (0 ≤ (pc : Int) + d)) = true → ∀ x : Int32, (pc : Int) + Op.lookupswitch.offset ps d x.toInt = ((swT x ((pc : Int) + d).toNat (ps.map fun q => (Int32.ofInt q.1, ((pc : Int) + q.2).toNat)) : Nat) : Int)
  | [], h, x => by
    simp at h
    show (pc : Int) + d = _
    simp only [List.map_nil, swT]
    omega
  | (a, o) :: r, h, x => by
    simp only [List.all_cons, Bool.and_eq_true, decide_eq_true_eq] at h
    obtain ⟨⟨⟨h1, h2⟩, h3⟩, h4⟩ := h
    simp only [List.map_cons, swT]
    by_cases hx : x = Int32.ofInt a
    · subst hx
      rw [if_pos rfl, h1]
      have : Op.lookupswitch.offset ((a, o) :: r) d a = o := by simp [Op.lookupswitch.offset]
      rw [this]
      omega
    · rw [if_neg hx, lv_osw hx h1]
      exact lsw_ok pc d r (by simp only [Bool.and_eq_true, decide_eq_true_eq]; exact ⟨h3, h4⟩) x
theorem ofI_toInt {z : Int} (h1 : -2147483648 ≤ z) (h2 : z < 2147483648) : (Int32.ofInt z).toInt = z := Int32.toInt_ofInt_of_le h1 h2
def tcs (pc lo : Int) : List Int → List (Int32 × Nat)
  | [] => []
  | o :: r => (Int32.ofInt lo, (pc + o).toNat) :: tcs pc (lo + 1) r
theorem tcs_out (pc : Int) (d : Nat) (x : Int32) : ∀ (offs : List Int) (lo : Int), -2147483648 ≤ lo → lo + offs.length ≤ 2147483648 → (x.toInt < lo ∨ lo + offs.length ≤ x.toInt) → swT x d (tcs pc lo offs) = d
  | [], lo, _, _, _ => rfl
  | o :: r, lo, h1, h2, h => by
    simp only [List.length_cons] at h2 h
    unfold tcs swT
    have hne : ¬ x = Int32.ofInt lo := by
      intro e
      have := ofI_toInt h1 (show lo < 2147483648 by omega)
      rw [← e] at this
      omega
    rw [if_neg hne]
    exact tcs_out pc d x r (lo + 1) (by omega) (by omega) (by omega)
theorem tcs_in (pc : Int) (d : Nat) (x : Int32) : ∀ (offs : List Int) (lo : Int), -2147483648 ≤ lo → lo + offs.length ≤ 2147483648 → lo ≤ x.toInt → x.toInt < lo + offs.length → ∃ off, offs[(x.toInt - lo).toNat]? = some off ∧ swT x d (tcs pc lo offs) = (pc + off).toNat
  | [], lo, _, _, h3, h4 => by simp at h4; omega
  | o :: r, lo, h1, h2, h3, h4 => by
    simp only [List.length_cons] at h2 h4
    unfold tcs swT
    have hl := ofI_toInt h1 (show lo < 2147483648 by omega)
    by_cases hx : x = Int32.ofInt lo
    · rw [if_pos hx]
      refine ⟨o, ?_, rfl⟩
      rw [hx, hl]
      simp
    · rw [if_neg hx]
      have hne : x.toInt ≠ lo := fun e => hx (Int32.toInt_inj.mp (by rw [hl]; exact e))
      obtain ⟨off, g1, g2⟩ := tcs_in pc d x r (lo + 1) (by omega) (by omega) (by omega) (by omega)
      refine ⟨off, ?_, g2⟩
      rw [show (x.toInt - lo).toNat = (x.toInt - (lo + 1)).toNat + 1 by omega, List.getElem?_cons_succ]
      exact g1
def tswC (pc : Nat) (d lo hi : Int) (offs : Array Int) : Bool := decide (-2147483648 ≤ lo) && decide (lo + offs.toList.length ≤ 2147483648) && decide (hi + 1 = lo + offs.toList.length) && decide (0 ≤ (pc : Int) + d) && offs.toList.all (fun o => decide (0 ≤ (pc : Int) + o))
theorem tsw_out (pc : Nat) (d lo hi : Int) (offs : Array Int) (h : tswC pc d lo hi offs = true) : ∀ x : Int32, (x.toInt < lo ∨ hi < x.toInt) → (pc : Int) + d = ((swT x ((pc : Int) + d).toNat (tcs pc lo offs.toList) : Nat) : Int) := by
  intro x hx
  simp only [tswC, Bool.and_eq_true, decide_eq_true_eq] at h
  obtain ⟨⟨⟨⟨h1, h2⟩, h3⟩, h4⟩, h5⟩ := h
  rw [tcs_out pc _ x offs.toList lo h1 h2 (by omega)]
  omega
theorem tsw_in (pc : Nat) (d lo hi : Int) (offs : Array Int) (h : tswC pc d lo hi offs = true) : ∀ x : Int32, ¬ x.toInt < lo → ¬ hi < x.toInt → ∃ off, offs[(x.toInt - lo).toNat]? = some off ∧ (pc : Int) + off = ((swT x ((pc : Int) + d).toNat (tcs pc lo offs.toList) : Nat) : Int) := by
  intro x g1 g2
  simp only [tswC, Bool.and_eq_true, decide_eq_true_eq] at h
  obtain ⟨⟨⟨⟨h1, h2⟩, h3⟩, h4⟩, h5⟩ := h
  obtain ⟨off, k1, k2⟩ := tcs_in pc ((pc : Int) + d).toNat x offs.toList lo h1 h2 (by omega) (by omega)
  refine ⟨off, by rw [← Array.getElem?_toList]; exact k1, ?_⟩
  rw [k2]
  have := List.all_eq_true.mp h5 off (List.mem_of_getElem? k1)
  simp only [decide_eq_true_eq] at this
  omega
section OKY
variable {ad0 : Nat → Nat} {G : Gm} {A : Nat → Prop} {nL n0 sl0 : Nat} {p : Program} {l : Launch} {e : Env} {R : Room} {s : State} {m : MethodId} {args : Array Value} {below : List Frame} {meth : Method} {c : Code} {Q : State → Prop} {σ ρ : Type} {O : Ops σ} {ret : Option Value → σ → Option ρ} {r : ρ} {pc : Nat}
theorem okc {ins : Ins σ} {t : List (Nat × Ins σ)} (h : OKi G A nL n0 sl0 ad0 p l e R s m args below meth c Q O ret r pc ins) (ht : ∀ q ∈ t, OKi G A nL n0 sl0 ad0 p l e R s m args below meth c Q O ret r q.1 q.2) : ∀ q ∈ (pc, ins) :: t, OKi G A nL n0 sl0 ad0 p l e R s m args below meth c Q O ret r q.1 q.2 := List.forall_mem_cons.mpr ⟨h, ht⟩
theorem okn : ∀ q ∈ ([] : List (Nat × Ins σ)), OKi G A nL n0 sl0 ad0 p l e R s m args below meth c Q O ret r q.1 q.2 := fun _ h => absurd h List.not_mem_nil
end OKY
theorem enc {l : Launch} {G : Gm} {D y : Nat} {en : En} {t : List (Nat × En)} (h : enOK l G D y en) (ht : ∀ q ∈ t, enOK l G D q.1 q.2) : ∀ q ∈ (y, en) :: t, enOK l G D q.1 q.2 := List.forall_mem_cons.mpr ⟨h, ht⟩
theorem enn {l : Launch} {G : Gm} {D : Nat} : ∀ q ∈ ([] : List (Nat × En)), enOK l G D q.1 q.2 := fun _ h => absurd h List.not_mem_nil
theorem beq1 {a b : Nat} (h : Nat.beq a b = true) : a = b := Nat.eq_of_beq_eq_true h
theorem beq2 {a b c : Nat} (h : (Nat.beq a b || Nat.beq a c) = true) : a = b ∨ a = c := by
  rw [Bool.or_eq_true] at h
  exact h.imp beq1 beq1
theorem beq3 {a b c d : Nat} (h : (Nat.beq a b || Nat.beq a c || Nat.beq a d) = true) : a = b ∨ a = c ∨ a = d := by
  simp only [Bool.or_eq_true] at h
  rcases h with (h | h) | h
  · exact Or.inl (beq1 h)
  · exact Or.inr (Or.inl (beq1 h))
  · exact Or.inr (Or.inr (beq1 h))
theorem beq4 {a b c d e : Nat} (h : (Nat.beq a b || Nat.beq a c || Nat.beq a d || Nat.beq a e) = true) : a = b ∨ a = c ∨ a = d ∨ a = e := by
  simp only [Bool.or_eq_true] at h
  rcases h with ((h | h) | h) | h
  · exact Or.inl (beq1 h)
  · exact Or.inr (Or.inl (beq1 h))
  · exact Or.inr (Or.inr (Or.inl (beq1 h)))
  · exact Or.inr (Or.inr (Or.inr (beq1 h)))
theorem beq5 {a b c d e f : Nat} (h : (Nat.beq a b || Nat.beq a c || Nat.beq a d || Nat.beq a e || Nat.beq a f) = true) : a = b ∨ a = c ∨ a = d ∨ a = e ∨ a = f := by
  simp only [Bool.or_eq_true] at h
  rcases h with (((h | h) | h) | h) | h
  · exact Or.inl (beq1 h)
  · exact Or.inr (Or.inl (beq1 h))
  · exact Or.inr (Or.inr (Or.inl (beq1 h)))
  · exact Or.inr (Or.inr (Or.inr (Or.inl (beq1 h))))
  · exact Or.inr (Or.inr (Or.inr (Or.inr (beq1 h))))
theorem beq6 {a : Nat} (h : (Nat.ble 63 a && nlt a 69) = true) : a = 63 ∨ a = 64 ∨ a = 65 ∨ a = 66 ∨ a = 67 ∨ a = 68 := by
  rw [Bool.and_eq_true] at h
  have h1 := Nat.le_of_ble_eq_true h.1
  have h2 : a < 69 := Nat.le_of_ble_eq_true h.2
  omega
