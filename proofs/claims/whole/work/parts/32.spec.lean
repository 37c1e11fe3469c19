/-! what both sides compute -/
abbrev Wd : Type := Nat × Nat × (Nat → Nat) × (Nat → Nat) × (Nat → Nat) × (Nat → Nat) × Nat × Option ((Nat → Int32) → Int32)
def Wd.P (G : Wd) : Nat := G.1
def Wd.Q (G : Wd) : Nat := G.2.1
def Wd.br (G : Wd) : Nat → Nat := G.2.2.1
def Wd.le (G : Wd) : Nat → Nat := G.2.2.2.1
def Wd.dn (G : Wd) : Nat → Nat := G.2.2.2.2.1
def Wd.bl (G : Wd) : Nat → Nat := G.2.2.2.2.2.1
def Wd.mr (G : Wd) : Nat := G.2.2.2.2.2.2.1
def Wd.lw (G : Wd) : Option ((Nat → Int32) → Int32) := G.2.2.2.2.2.2.2
def EvOk (ev : (Nat → Int32) → Int32) : Prop := ∀ v v' : Nat → Int32, (∀ k, k < 6 → v k = v' k) → ev v = ev v'
def WOK (G : Wd) : Prop := G.P ≤ 6 ∧ G.Q ≤ 7 ∧ (∀ k, G.br k ≤ 9) ∧ (∀ k, G.le k ≤ 9) ∧ (∀ k, G.dn k ≤ 6) ∧ (∀ k, G.bl k ≤ 9) ∧ G.mr ≤ 20 ∧ (∀ ev, G.lw = some ev → EvOk ev)
def guF (G : Wd) (pl hr : Nat) : Nat := G.bl hr + G.mr - G.le pl
def othF (G : Wd) (A : Nat → Nat) (p pl : Nat) : Nat := cntF (fun q => if q = p then 0 else if A q = pl then 1 else 0) G.P 0
def fctF (G : Wd) (A : Nat → Nat) (p pl hr b h : Nat) : Nat → Int32 := fun k => if k = 0 then nI (guF G pl hr) else if k = 1 then nI h else if k = 2 then nI b else if k = 3 then nI hr else if k = 4 then nI p else nI (othF G A p pl)
def heF (v : Int32) : Nat := if v < nI 0 then 0 else if nI 12 < v then 12 else v.toNatClampNeg
def nuF (G : Wd) (A : Nat → Nat) (p pl hr b h : Nat) : Nat := if h = 0 then 0 else match G.lw with
  | none => if 12 ≤ guF G pl hr + h - b then 12 else guF G pl hr + h - b
  | some ev => heF (ev (fctF G A p pl hr b h))
theorem heF_le (v : Int32) : heF v ≤ 12 := by
  unfold heF
  by_cases h1 : v < nI 0
  · rw [if_pos h1]; omega
  · rw [if_neg h1]
    by_cases h2 : nI 12 < v
    · rw [if_pos h2]; omega
    · rw [if_neg h2]
      obtain ⟨j, hj, rfl⟩ := nI_of (x := v) h1
      rw [nI_cl (by omega)]
      rcases Nat.lt_or_ge 12 j with h3 | h3
      · exact absurd (nI_lt h3 (by omega)) h2
      · exact h3
theorem heF_eq (v : Int32) : nI (heF v) = if v < nI 0 then nI 0 else if nI 12 < v then nI 12 else v := by
  unfold heF
  by_cases h1 : v < nI 0
  · rw [if_pos h1, if_pos h1]
  · rw [if_neg h1, if_neg h1]
    by_cases h2 : nI 12 < v
    · rw [if_pos h2, if_pos h2]
    · rw [if_neg h2, if_neg h2]
      obtain ⟨j, hj, rfl⟩ := nI_of (x := v) h1
      rw [nI_cl (by omega)]
theorem nuF_le (G : Wd) (A : Nat → Nat) (p pl hr b h : Nat) : nuF G A p pl hr b h ≤ 12 := by
  unfold nuF
  split
  · omega
  · split
    · split <;> omega
    · exact heF_le _
abbrev PH : Type := (Nat → Nat) × (Nat → Nat)
def tuS (A : Nat → Nat) (q : PH) (p : Nat) : PH := if q.1 p < 9 ∧ 0 < q.2 (A p) then (nU q.1 p (q.1 p + 1), nU q.2 (A p) (q.2 (A p) - 1)) else q
def tuF (A : Nat → Nat) : Nat → Nat → PH → PH
  | 0, _, q => q
  | n + 1, p, q => tuF A n (p + 1) (tuS A q p)
def fiF (c : Nat → Bool) : Nat → Nat → Option Nat
  | 0, _ => none
  | n + 1, i => if c i then some i else fiF c n (i + 1)
def wrF (P p k : Nat) : Nat := if p + k < P then p + k else p + k - P
def caF (G : Wd) (H A : Nat → Nat) (p : Nat) : Option Nat := match fiF (fun k => decide (A (wrF G.P p k) = A p ∧ H (wrF G.P p k) < 9)) (G.P - 1) 1 with
  | some k => some (wrF G.P p k)
  | none => if G.dn (A p) = A p ∨ ¬ G.dn (A p) < G.Q then none else fiF (fun o => decide (A o = G.dn (A p) ∧ H o < 9)) G.P 0
def whF (G : Wd) (A : Nat → Nat) (p : Nat) : Nat := if G.dn (A p) < G.Q then G.dn (A p) else A p
def faF (G : Wd) (A : Nat → Nat) (q : PH) (p : Nat) : PH := match caF G q.1 A p with
  | some o => (nU (nU q.1 p (q.1 p - 1)) o (nU q.1 p (q.1 p - 1) o + 1), q.2)
  | none => (nU q.1 p (q.1 p - 1), nU q.2 (whF G A p) (q.2 (whF G A p) + 1))
def ldF (G : Wd) (H A : Nat → Nat) (p : Nat) : Int32 := match caF G H A p with
  | some o => nI o
  | none => mI 2
def enF (G : Wd) (H A : Nat → Nat) (p : Nat) : Int32 := match caF G H A p with
  | some o => nI o
  | none => mI (1 + whF G A p)
noncomputable def zF (z : Int32) : Int32 := aAdd (aMul z (nI 1103515245)) (nI 12345)
noncomputable def drF (z : Int32) : Int32 := aRem (aUshr z (nI 8)) (nI 12)
abbrev HS : Type := Int32 × PH × (Nat → Int32) × Nat
noncomputable def hoS (G : Wd) (A : Nat → Nat) (hr : Nat) (q : HS) (p : Nat) : HS :=
  if q.2.1.1 p = 0 then (q.1, q.2.1, va_up q.2.2.1 p (nI p), q.2.2.2)
  else if drF (zF q.1) < nI (nuF G A p (A p) hr (G.br p) (q.2.1.1 p)) then (zF q.1, faF G A q.2.1 p, va_up q.2.2.1 p (ldF G q.2.1.1 A p), q.2.2.2 + 1)
  else (zF q.1, q.2.1, va_up q.2.2.1 p (nI p), q.2.2.2)
noncomputable def hoF (G : Wd) (A : Nat → Nat) (hr : Nat) : Nat → Nat → HS → HS
  | 0, _, q => q
  | n + 1, p, q => hoF G A hr n (p + 1) (hoS G A hr q p)
noncomputable def hrF (G : Wd) (A : Nat → Nat) (hr : Nat) (q : HS) : HS := hoF G A hr G.P 0 (q.1, tuF A G.P 0 q.2.1, q.2.2)
noncomputable def hsF (G : Wd) (A : Nat → Nat) : Nat → Nat → HS → HS
  | 0, _, q => q
  | n + 1, hr, q => hsF G A n (hr + 1) (hrF G A hr q)
def cmF (H : Nat → Nat) : Nat → Nat → Nat → Nat
  | 0, _, b => b
  | n + 1, i, b => cmF H n (i + 1) (if H b < H i then i else b)
def raF (H : Nat → Nat) (P p : Nat) : Nat := cntF (fun o => if H p < H o then 1 else if H o = H p then (if o < p then 1 else 0) else 0) P 0
def spP (k : PH → Nat → Nat × Nat) (G : Wd) (A : Nat → Nat) (hr : Nat) : Nat → Nat → PH → Nat → Nat × Nat
  | 0, _, q, w => k q w
  | n + 1, p, q, w => ((if nuF G A p (A p) hr (G.br p) (q.1 p) < 12 then (spP k G A hr n (p + 1) q (w * (12 - nuF G A p (A p) hr (G.br p) (q.1 p)))).1 else 0) + (if 0 < nuF G A p (A p) hr (G.br p) (q.1 p) then (spP k G A hr n (p + 1) (faF G A q p) (w * nuF G A p (A p) hr (G.br p) (q.1 p))).1 else 0), (if nuF G A p (A p) hr (G.br p) (q.1 p) < 12 then (spP k G A hr n (p + 1) q (w * (12 - nuF G A p (A p) hr (G.br p) (q.1 p)))).2 else 0) + (if 0 < nuF G A p (A p) hr (G.br p) (q.1 p) then (spP k G A hr n (p + 1) (faF G A q p) (w * nuF G A p (A p) hr (G.br p) (q.1 p))).2 else 0))
def spH (G : Wd) (A : Nat → Nat) (one : Nat) : Nat → Nat → PH → Nat → Nat × Nat
  | 0, _, q, w => (if cmF q.1 (G.P - 1) 1 0 = one then w else 0, w * q.1 one)
  | y + 1, hr, q, w => spP (spH G A one y (hr + 1)) G A hr G.P 0 (tuF A G.P 0 q) w
def LawC (s : SS) (lw : Option ((Nat → Int32) → Int32)) : Prop := (s.2.2.1 = 13 ∨ s.2.2.1 = 20) ∧ match lw with
  | none => s.1 s.2.2.1 7 = nI 0
  | some ev => s.1 s.2.2.1 7 ≠ nI 0 ∧ ∀ s2 : SS, (∀ c, s.2.2.1 ≤ c → c ≤ s.2.2.1 + 6 → c ≠ s.2.2.1 + 4 → s2.1 c = s.1 c) →
    ∃ s3 : SS, f_X3_work s.2.2.1 s2 = some (ev (s2.1 (s.2.2.1 + 4)), s3) ∧ (∀ c, c ≠ s.2.2.1 + 4 → s3.1 c = s2.1 c) ∧ s3.2 = s2.2
def LawM (s : SS) (lw : Option ((Nat → Int32) → Int32)) : Prop := match lw with
  | none => s.1 74 35 = nI 0
  | some ev => s.1 74 35 = nI 1 ∧ ∀ s2 : SS, (∀ k, k < 130 → s2.1 90 k = s.1 90 k) → (∀ k, k < 130 → s2.1 91 k = s.1 91 k) → s2.1 92 0 = s.1 92 0 → (∀ k, k < 61 → s2.1 93 k = s.1 93 k) → (∀ k, k < 61 → s2.1 94 k = s.1 94 k) →
    ∃ s3 : SS, f_X12_gives (nI 0) s2 = some (ev (s2.1 95), s3) ∧ (∀ c, c ≠ 96 → s3.1 c = s2.1 c) ∧ s3.2 = s2.2
def WC (s : SS) (G : Wd) : Prop := s.1 1 0 = nI G.P ∧ s.1 1 1 = nI G.Q ∧ s.1 2 = aN G.br ∧ s.1 3 = aN G.le ∧ s.1 4 = aN G.dn ∧ s.1 5 = aN G.bl ∧ s.1 27 3 = nI G.mr ∧ LawC s G.lw
def WM (s : SS) (G : Wd) : Prop := s.1 74 11 = nI G.P ∧ s.1 74 4 = nI G.Q ∧ s.1 82 = aN G.br ∧ s.1 76 = aN G.le ∧ s.1 77 = aN G.dn ∧ s.1 75 = aN G.bl ∧ s.1 74 3 = nI G.mr ∧ LawM s G.lw
theorem LawC_fr {s s' : SS} {lw : Option ((Nat → Int32) → Int32)} (h : LawC s lw) (h2 : s'.2.2.1 = s.2.2.1) (hc : ∀ c, s.2.2.1 ≤ c → c ≤ s.2.2.1 + 6 → c ≠ s.2.2.1 + 4 → s'.1 c = s.1 c) : LawC s' lw := by
  unfold LawC at h ⊢
  rw [h2]
  refine ⟨h.1, ?_⟩
  have h0 : s'.1 s.2.2.1 = s.1 s.2.2.1 := hc _ (by omega) (by omega) (by omega)
  rw [h0]
  cases lw with
  | none => exact h.2
  | some ev =>
    exact ⟨h.2.1, fun s2 e1 => h.2.2 s2 (fun c x y z => (e1 c x y z).trans (hc c x y z))⟩
theorem LawM_fr {s s' : SS} {lw : Option ((Nat → Int32) → Int32)} (h : LawM s lw) (h0 : s'.1 74 35 = s.1 74 35) (h1 : ∀ k, k < 130 → s'.1 90 k = s.1 90 k) (h2 : ∀ k, k < 130 → s'.1 91 k = s.1 91 k) (h3 : s'.1 92 0 = s.1 92 0) (h4 : ∀ k, k < 61 → s'.1 93 k = s.1 93 k) (h5 : ∀ k, k < 61 → s'.1 94 k = s.1 94 k) : LawM s' lw := by
  cases lw with
  | none => exact h0.trans h
  | some ev =>
    refine ⟨h0.trans h.1, fun s2 e1 e2 e3 e4 e5 => ?_⟩
    exact h.2 s2 (fun k x => (e1 k x).trans (h1 k x)) (fun k x => (e2 k x).trans (h2 k x)) (e3.trans h3) (fun k x => (e4 k x).trans (h4 k x)) (fun k x => (e5 k x).trans (h5 k x))
theorem WC_fr {s s' : SS} {G : Wd} (h : WC s G) (h2 : s'.2.2 = s.2.2) (a : ∀ c, 1 ≤ c → c ≤ 5 → s'.1 c = s.1 c) (b : ∀ c, 13 ≤ c → c ≤ 27 → s'.1 c = s.1 c) : WC s' G := by
  obtain ⟨g1, g2, g3, g4, g5, g6, g7, g8⟩ := h
  have ht := g8.1
  refine ⟨by rw [a 1 (by omega) (by omega)]; exact g1, by rw [a 1 (by omega) (by omega)]; exact g2, by rw [a 2 (by omega) (by omega)]; exact g3, by rw [a 3 (by omega) (by omega)]; exact g4, by rw [a 4 (by omega) (by omega)]; exact g5, by rw [a 5 (by omega) (by omega)]; exact g6, by rw [b 27 (by omega) (by omega)]; exact g7, ?_⟩
  exact LawC_fr g8 (by rw [h2]) (fun c x y z => b c (by omega) (by omega))
theorem WM_fr {s s' : SS} {G : Wd} (h : WM s G) (a : ∀ k, k < 40 → s'.1 74 k = s.1 74 k) (b : ∀ c, 75 ≤ c → c ≤ 77 → s'.1 c = s.1 c) (c82 : s'.1 82 = s.1 82) (e : ∀ c, 90 ≤ c → c ≤ 94 → s'.1 c = s.1 c) : WM s' G := by
  obtain ⟨g1, g2, g3, g4, g5, g6, g7, g8⟩ := h
  refine ⟨by rw [a 11 (by omega)]; exact g1, by rw [a 4 (by omega)]; exact g2, by rw [c82]; exact g3, by rw [b 76 (by omega) (by omega)]; exact g4, by rw [b 77 (by omega) (by omega)]; exact g5, by rw [b 75 (by omega) (by omega)]; exact g6, by rw [a 3 (by omega)]; exact g7, ?_⟩
  exact LawM_fr g8 (a 35 (by omega)) (fun k _ => by rw [e 90 (by omega) (by omega)]) (fun k _ => by rw [e 91 (by omega) (by omega)]) (by rw [e 92 (by omega) (by omega)]) (fun k _ => by rw [e 93 (by omega) (by omega)]) (fun k _ => by rw [e 94 (by omega) (by omega)])
