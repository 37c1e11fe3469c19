/-- the law's own script: its reference is 204 -/
def e_xlen (L : Nat) (nx : Nat) : Ins SS := fun _ _ _ ls st s k => match st with
  | .ref a :: r => gd (Nat.beq a 204) (k nx ls (.int (Int32.ofNat L) :: r) s)
  | _ => none
noncomputable def e_xld (xs : Nat → Int32) (L : Nat) (nx : Nat) : Ins SS := fun _ _ _ ls st s k => match st with
  | .int i :: .ref a :: r => gd (Nat.beq a 204 && inb i L) (k nx ls (.int (xs i.toNatClampNeg) :: r) s)
  | _ => none
section OKL
variable {ad0 : Nat → Nat} {G : Gm} {A : Nat → Prop} {own : String} {cc : ByteArray} {nL n0 sl0 : Nat} {p : Program} {l : Launch} {e : Env} {R : Room} {s : State} {m : MethodId} {args : Array Value} {below : List Frame} {meth : Method} {c : Code} {Q : State → Prop} {σ ρ : Type} {O : Ops σ} {ret : Option Value → SS → Option ρ} {r : ρ} {pc nx : Nat} {D : Nat} {b L : Nat} {xs : Nat → Int32}
theorem ok_xlen (X : Cx G A own cc nL p s m args c) (hX : va_X b L xs s s.heap) (hbl : b < s.heap.size) (hbA : ¬ A b) (hGb : G.ex 4 = b) (d : decode cc pc = .ok (.arraylength, 1)) (hn : pc + 1 = nx) : OKi G A nL n0 sl0 ad0 p l e R s m args below meth c Q opsS ret r pc (e_xlen L nx) := by
  intro ls st x k h hk ad H locs cells slots lsA hR hl
  subst hn
  unfold e_xlen at h
  split at h
  · rename_i a q
    obtain ⟨hb, h⟩ := gd_some h
    rw [List.map_cons, show cv ad (Value.ref a) = .ref b by rw [Nat.eq_of_beq_eq_true hb]; exact congrArg Value.ref ((hR.2.2.2.2.1 4).trans hGb)]
    exact va_slen X.1 X.2.1 hX hbl hbA hR.2.2.1 d (hk _ _ _ _ h ad H locs cells slots lsA hR hl)
  · cases h
theorem ok_xld (X : Cx G A own cc nL p s m args c) (hX : va_X b L xs s s.heap) (hbl : b < s.heap.size) (hbA : ¬ A b) (hGb : G.ex 4 = b) (d : decode cc pc = .ok (.iaload, 1)) (hn : pc + 1 = nx) : OKi G A nL n0 sl0 ad0 p l e R s m args below meth c Q opsS ret r pc (e_xld xs L nx) := by
  intro ls st x k h hk ad H locs cells slots lsA hR hl
  subst hn
  unfold e_xld at h
  split at h
  · rename_i i a q
    obtain ⟨hb, h⟩ := gd_some h
    rw [Bool.and_eq_true] at hb
    rw [List.map_cons, List.map_cons, show cv ad (Value.ref a) = .ref b by rw [Nat.eq_of_beq_eq_true hb.1]; exact congrArg Value.ref ((hR.2.2.2.2.1 4).trans hGb)]
    exact va_sld X.1 X.2.1 hX hbl hbA hR.2.2.1 (inb_of hb.2) d (hk _ _ _ _ h ad H locs cells slots lsA hR hl)
  · cases h
/-- a call from a frame that has made cells itself -/
theorem ok_callVL {ret : Option Value → σ → Option ρ} {cal : Cal σ} (X : Cx G A own cc nL p s m args c) (hcal : calOK l G O D cal) {nn ss : Nat} (hN : ∀ x, (O.emb x).n = nn ∧ (O.emb x).sl = ss) (hnn : nn ≤ n0 + R.cells) (hss : ss ≤ sl0 + R.slots) {y na idx ci : Nat} {C : String} {T : u_T} {N : Nat} {Y : Md} (hY : md y = Y) (hc : vwCl[ci]? = some (C, T, N)) (h100 : ci < 100) (hC : Y.1.cls = C) (hcd : Cond.code Y.1 Y.2.1 Y.2.2.1 Y.2.2.2 ∈ TB) (hln : Cond.methodLink own idx Y.1 ∈ TB) (hini : Cond.initialized Y.1.cls ∈ TB) (him : Cond.instanceMethod Y.1 ∈ TB) (hsel : Cond.selects Y.1.cls Y.1 Y.1 ∈ TB) (hd : Y.1.cls ≠ "java/lang/invoke/MethodHandle" ∧ Y.1.cls ≠ "java/lang/invoke/VarHandle" ∧ (parseMethodDescriptor Y.1.desc).map (fun d => d.parameters.length) = some na) (hRm : D + 1 ≤ R.frames ∧ 8 + (Y.2.2.1 + 11) + 40 * D ≤ R.locals) (d : decode cc pc = .ok (.invokevirtual idx, 3)) (hn : pc + 3 = nx) : OKi G A nL n0 sl0 ad0 p l e R s m args below meth c Q O ret r pc (e_callV O cal y na ci nx) := by
  intro ls st x k h hk ad H locs cells slots lsA hR hl
  subst hn
  subst hY
  unfold e_callV at h
  split at h
  · rename_i b q hdr
    obtain ⟨hb, h⟩ := gd_some h
    simp only [Bool.and_eq_true] at hb
    have hna := Nat.eq_of_beq_eq_true hb.1.1
    have hsum := Nat.le_of_ble_eq_true hb.1.2
    obtain ⟨k1, k2⟩ := isK_of hb.2
    obtain ⟨rv, x', hkr, hM⟩ := hcal _ _ _ _ _ _ h
    obtain ⟨m1, m2, m3, hM⟩ := hM
    have hM := hM ad H.size hR.2.2.2.1 hR.2.2.2.2.1
    have e1 := (hN x).1
    have e2 := (hN x').1
    have e3 := (hN x).2
    have e4 := (hN x').2
    have hc0 := hR.2.2.2.2.2.1
    have hs0 := hR.2.2.2.2.2.2.1
    have hst2 : st.map (cv ad) = (((st.take na).reverse.map (cv ad)).reverse) ++ (.ref (ad b) :: q.map (cv ad)) := by
      rw [← List.map_reverse, List.reverse_reverse, show (Value.ref (ad b) :: q.map (cv ad)) = (st.drop na).map (cv ad) by rw [hdr]; rfl, ← List.map_append, List.take_append_drop]
    have z1 : (O.emb x').n - (O.emb x).n = 0 := by omega
    have z2 : (O.emb x').sl - (O.emb x).sl = 0 := by omega
    rw [z1, z2] at hM
    subst hC
    refine call_go (mc := 0) (ms := 0) (va_runV (C := (md y).1.cls) (As := (st.take na).reverse.map (cv ad)) (rest := q.map (cv ad)) ⟨X.1, X.2.1, X.2.2.1, X.2.2.2.1, X.2.2.2.2.1⟩ hM ⟨TB_call X.2.2.2.2.1 hcd hln hini hd hRm, X.2.2.2.2.1 _ him, X.2.2.2.2.1 _ hsel⟩ ⟨PcA.blind, va_recv X.2.2.2.2.2.1 hR.1 hc (by rw [wsA_get k1, cE_obj k2 h100]), PcA.at X hR rfl⟩ rfl (by simpa using hna) hl.1 hst2 (lv_room (by rw [cat_sum]; exact hsum)) d ⟨by omega, by omega⟩) hR X.2.2.2.2.2.2.1 (by omega) (by omega) m3 (fun ad' H1 locs1 g1 g2 => ?_)
    have had : ad' = ad := funext fun i => g1 i (by omega)
    subst had
    have g := hk _ _ _ _ hkr ad' H1 locs1 _ _ lsA g2 hl
    rw [List.map_append] at g
    cases rv <;> exact g
  · cases h
end OKL
def lawCs : List (Int32 × Nat) := (((0 : Int32), (192 : Nat)) : Int32 × Nat) :: (((1 : Int32), (215 : Nat)) : Int32 × Nat) :: (((2 : Int32), (238 : Nat)) : Int32 × Nat) :: (((3 : Int32), (271 : Nat)) : Int32 × Nat) :: (((4 : Int32), (314 : Nat)) : Int32 × Nat) :: (((5 : Int32), (357 : Nat)) : Int32 × Nat) :: (((6 : Int32), (390 : Nat)) : Int32 × Nat) :: (((7 : Int32), (413 : Nat)) : Int32 × Nat) :: (((8 : Int32), (426 : Nat)) : Int32 × Nat) :: (((9 : Int32), (459 : Nat)) : Int32 × Nat) :: (((10 : Int32), (492 : Nat)) : Int32 × Nat) :: (((11 : Int32), (515 : Nat)) : Int32 × Nat) :: (((12 : Int32), (528 : Nat)) : Int32 × Nat) :: (((13 : Int32), (551 : Nat)) : Int32 × Nat) :: (((14 : Int32), (584 : Nat)) : Int32 × Nat) :: (((15 : Int32), (627 : Nat)) : Int32 × Nat) :: (((16 : Int32), (671 : Nat)) : Int32 × Nat) :: (((17 : Int32), (715 : Nat)) : Int32 × Nat) :: (((18 : Int32), (748 : Nat)) : Int32 × Nat) :: (((19 : Int32), (781 : Nat)) : Int32 × Nat) :: (((20 : Int32), (834 : Nat)) : Int32 × Nat) :: (((21 : Int32), (857 : Nat)) : Int32 × Nat) :: (((22 : Int32), (890 : Nat)) : Int32 × Nat) :: (((23 : Int32), (903 : Nat)) : Int32 × Nat) :: (((24 : Int32), (916 : Nat)) : Int32 × Nat) :: (((25 : Int32), (929 : Nat)) : Int32 × Nat) :: (((26 : Int32), (942 : Nat)) : Int32 × Nat) :: (((27 : Int32), (965 : Nat)) : Int32 × Nat) :: (((28 : Int32), (1008 : Nat)) : Int32 × Nat) :: (((29 : Int32), (1031 : Nat)) : Int32 × Nat) :: (((30 : Int32), (1064 : Nat)) : Int32 × Nat) :: (((31 : Int32), (1107 : Nat)) : Int32 × Nat) :: (((32 : Int32), (1180 : Nat)) : Int32 × Nat) :: (((33 : Int32), (1214 : Nat)) : Int32 × Nat) :: (((34 : Int32), (1277 : Nat)) : Int32 × Nat) :: (((35 : Int32), (1310 : Nat)) : Int32 × Nat) :: []
def lawOffL : List Int := 159 :: 182 :: 205 :: 238 :: 281 :: 324 :: 357 :: 380 :: 393 :: 426 :: 459 :: 482 :: 495 :: 518 :: 551 :: 594 :: 638 :: 682 :: 715 :: 748 :: 801 :: 824 :: 857 :: 870 :: 883 :: 896 :: 909 :: 932 :: 975 :: 998 :: 1031 :: 1074 :: 1147 :: 1181 :: 1244 :: 1277 :: []
def lawOffs : Array Int := ⟨lawOffL⟩
theorem lawC : tswC 33 1300 0 35 lawOffs = true := by decide +kernel
theorem lawCs_eq : tcs 33 0 lawOffs.toList = lawCs := by decide +kernel
theorem law_out (x : Int32) (h : x.toInt < 0 ∨ 35 < x.toInt) : ((33 : Nat) : Int) + 1300 = ((swT x 1333 lawCs : Nat) : Int) := by
  have g := tsw_out 33 1300 0 35 lawOffs lawC x h
  rw [show tcs ((33 : Nat) : Int) 0 lawOffs.toList = lawCs from lawCs_eq] at g
  exact g
theorem law_in (x : Int32) (h1 : ¬ x.toInt < 0) (h2 : ¬ 35 < x.toInt) : ∃ off, lawOffs[(x.toInt - 0).toNat]? = some off ∧ ((33 : Nat) : Int) + off = ((swT x 1333 lawCs : Nat) : Int) := by
  have g := tsw_in 33 1300 0 35 lawOffs lawC x h1 h2
  rw [show tcs ((33 : Nat) : Int) 0 lawOffs.toList = lawCs from lawCs_eq] at g
  exact g
