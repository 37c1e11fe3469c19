/-! the reference reads: letters, steps, numbers -/
def MS (s : SS) (tl : Nat) (tp : Nat → Nat) (o l h : Nat) : Prop := s.1 74 24 = nI h ∧ s.1 74 25 = mI 1 ∧ s.1 74 26 = nI o ∧ s.1 74 27 = nI l ∧ s.1 74 23 = nI tl ∧ s.1 89 = (fun k => aB (nI (tp k))) ∧ h ≤ tl ∧ l ≤ h
/-- after a fault at h, with l steps -/
def MX (s : SS) (tl : Nat) (tp : Nat → Nat) (h l : Nat) : Prop := s.1 74 24 = nI h ∧ s.1 74 25 = nI h ∧ s.1 74 27 = nI l ∧ s.1 74 23 = nI tl ∧ s.1 89 = (fun k => aB (nI (tp k))) ∧ h ≤ tl
def FrM (l : Nat) (s s' : SS) : Prop := (∀ c, c ≠ 74 → c ≠ 90 → c ≠ 91 → s'.1 c = s.1 c) ∧ (∀ k, ¬ (24 ≤ k ∧ k ≤ 27) → s'.1 74 k = s.1 74 k) ∧ (∀ k, k < 130 + l → s'.1 90 k = s.1 90 k ∧ s'.1 91 k = s.1 91 k) ∧ s'.2 = s.2
theorem FrM_rfl (l : Nat) (s : SS) : FrM l s s := ⟨fun _ _ _ _ => rfl, fun _ _ => rfl, fun _ _ => ⟨rfl, rfl⟩, rfl⟩
theorem FrM_tr {l l' : Nat} {s s1 s2 : SS} (h : FrM l s s1) (h' : FrM l' s1 s2) (hl : l ≤ l') : FrM l s s2 := ⟨fun c x y z => by rw [h'.1 c x y z, h.1 c x y z], fun k x => by rw [h'.2.1 k x, h.2.1 k x], fun k x => ⟨by rw [(h'.2.2.1 k (by omega)).1, (h.2.2.1 k x).1], by rw [(h'.2.2.1 k (by omega)).2, (h.2.2.1 k x).2]⟩, by rw [h'.2.2.2, h.2.2.2]⟩
noncomputable def lkV (tl : Nat) (tp : Nat → Nat) (h : Nat) : Int32 := if h < tl then aB (nI (tp h)) else mI 1
theorem lk_eq {tl : Nat} {tp : Nat → Nat} (hp : ∀ k, tp k ≤ 255) (h c : Nat) (hc : c < 128) : (lkV tl tp h = nI c) = (tkF tl tp h = c) := by
  unfold lkV tkF
  have := hp h
  apply propext
  split
  · rcases Nat.lt_or_ge (tp h) 128 with z | z
    · rw [aB_lo z]
      exact nI_eq (by omega) (by omega)
    · rw [aB_hi z this]
      constructor
      · intro e; exact absurd e (of_eq_false (meq_n (by omega) (by omega) (by omega)))
      · intro e; omega
  · constructor
    · intro e; exact absurd e (of_eq_false (meq_n (by omega) (by omega) (by omega)))
    · intro e; omega
theorem lk_dig {tl : Nat} {tp : Nat → Nat} (hp : ∀ k, tp k ≤ 255) (h : Nat) : wB (lkV tl tp h) (nI 48) (nI 57) = dgF (tkF tl tp h) := by
  have hb := hp h
  unfold lkV tkF dgF
  have neg : ∀ z, 0 < z → z < 1000 → wB (mI z) (nI 48) (nI 57) = false := fun z a b => by
    unfold wB
    simp (disch := omega) only [↓reduceIte, li_0, li_1, li_2, li_3, li_4, li_5, li_6, li_7, li_8, li_9, li_10, li_11, li_12, li_13, li_14, li_15, li_16, li_17, li_18, li_19, li_20, li_21, li_22, li_23, li_24, li_25, li_26, li_27, li_28, li_29, li_30, li_31, li_32, li_33, li_34, li_35, li_36, li_37, li_38, li_39, li_40, li_41, li_42, li_43, li_44, li_45, li_46, li_47, li_48, li_49, li_50, li_51, li_52, li_53, li_54, li_55, li_56, li_57, li_58, li_59, li_60, li_61, li_62, li_63, li_70, li_80, li_81, li_95, li_98, li_99, li_100, li_101, li_102, li_103, li_104, li_105, li_106, li_107, li_108, li_109, li_110, li_111, li_112, li_120, li_122, li_124, li_126, li_130, li_168, li_175, li_200, li_255, li_260, li_360, li_1440, li_12345, li_1000000, li_1103515245, neg_nI, nltT, nltF, neqT, neqF, mlt_n, nlt_m, meq_n, neq_m, meq_mT, meq_mF, mlt_mT, mlt_mF, nI_cl, gd_in, gd_T, Option.bind_some, pI_ne, pI_eq, pI_2, pL_1, pL_ne, pL_eq, pL_22, upEq, upN, aN_at, aN_up, nU_e, nU_n, aAdd_n, aAdd_nm, aSub_p, aSub_n, aSub_mn, aSub_mm, aMul_n, aDiv_n, aRem_n, eq_self_iff_true]
    simp
  split
  · rcases Nat.lt_or_ge (tp h) 128 with z | z
    · rw [aB_lo z, wB_n (by omega) (by omega) (by omega)]
    · rw [aB_hi z hb, neg _ (by omega) (by omega), decide_eq_false (by omega)]
  · rw [neg 1 (by omega) (by omega), decide_eq_false (by omega)]
theorem m_look {s : SS} {tl : Nat} {tp : Nat → Nat} {h : Nat} (h1 : s.1 74 24 = nI h) (h2 : s.1 74 23 = nI tl) (h3 : s.1 89 = (fun k => aB (nI (tp k)))) (hh : h ≤ tl) (ht : tl ≤ 120) : f_X12_look s = some (lkV tl tp h, s) := by
  unfold f_X12_look lkV
  by_cases c : h < tl
  · rw [if_pos c]
    simp (disch := omega) only [↓reduceIte, li_0, li_1, li_2, li_3, li_4, li_5, li_6, li_7, li_8, li_9, li_10, li_11, li_12, li_13, li_14, li_15, li_16, li_17, li_18, li_19, li_20, li_21, li_22, li_23, li_24, li_25, li_26, li_27, li_28, li_29, li_30, li_31, li_32, li_33, li_34, li_35, li_36, li_37, li_38, li_39, li_40, li_41, li_42, li_43, li_44, li_45, li_46, li_47, li_48, li_49, li_50, li_51, li_52, li_53, li_54, li_55, li_56, li_57, li_58, li_59, li_60, li_61, li_62, li_63, li_70, li_80, li_81, li_95, li_98, li_99, li_100, li_101, li_102, li_103, li_104, li_105, li_106, li_107, li_108, li_109, li_110, li_111, li_112, li_120, li_122, li_124, li_126, li_130, li_168, li_175, li_200, li_255, li_260, li_360, li_1440, li_12345, li_1000000, li_1103515245, neg_nI, nltT, nltF, neqT, neqF, mlt_n, nlt_m, meq_n, neq_m, meq_mT, meq_mF, mlt_mT, mlt_mF, nI_cl, gd_in, gd_T, Option.bind_some, pI_ne, pI_eq, pI_2, pL_1, pL_ne, pL_eq, pL_22, upEq, upN, aN_at, aN_up, nU_e, nU_n, aAdd_n, aAdd_nm, aSub_p, aSub_n, aSub_mn, aSub_mm, aMul_n, aDiv_n, aRem_n, eq_self_iff_true, h1, h2, h3]
  · rw [if_neg c]
    simp (disch := omega) only [↓reduceIte, li_0, li_1, li_2, li_3, li_4, li_5, li_6, li_7, li_8, li_9, li_10, li_11, li_12, li_13, li_14, li_15, li_16, li_17, li_18, li_19, li_20, li_21, li_22, li_23, li_24, li_25, li_26, li_27, li_28, li_29, li_30, li_31, li_32, li_33, li_34, li_35, li_36, li_37, li_38, li_39, li_40, li_41, li_42, li_43, li_44, li_45, li_46, li_47, li_48, li_49, li_50, li_51, li_52, li_53, li_54, li_55, li_56, li_57, li_58, li_59, li_60, li_61, li_62, li_63, li_70, li_80, li_81, li_95, li_98, li_99, li_100, li_101, li_102, li_103, li_104, li_105, li_106, li_107, li_108, li_109, li_110, li_111, li_112, li_120, li_122, li_124, li_126, li_130, li_168, li_175, li_200, li_255, li_260, li_360, li_1440, li_12345, li_1000000, li_1103515245, neg_nI, nltT, nltF, neqT, neqF, mlt_n, nlt_m, meq_n, neq_m, meq_mT, meq_mF, mlt_mT, mlt_mF, nI_cl, gd_in, gd_T, Option.bind_some, pI_ne, pI_eq, pI_2, pL_1, pL_ne, pL_eq, pL_22, upEq, upN, aN_at, aN_up, nU_e, nU_n, aAdd_n, aAdd_nm, aSub_p, aSub_n, aSub_mn, aSub_mm, aMul_n, aDiv_n, aRem_n, eq_self_iff_true, h1, h2]
theorem m_addStep {s : SS} {l : Nat} (h : s.1 74 27 = nI l) (hl : l < 130) (c : Nat) (hc : c < 128) (w : Int32) : f_X12_addStep (nI c) w s = some (pI (pI (pI s 90 (130 + l) (nI c)) 91 (130 + l) w) 74 27 (nI (l + 1))) := by
  unfold f_X12_addStep
  simp (disch := omega) only [↓reduceIte, li_0, li_1, li_2, li_3, li_4, li_5, li_6, li_7, li_8, li_9, li_10, li_11, li_12, li_13, li_14, li_15, li_16, li_17, li_18, li_19, li_20, li_21, li_22, li_23, li_24, li_25, li_26, li_27, li_28, li_29, li_30, li_31, li_32, li_33, li_34, li_35, li_36, li_37, li_38, li_39, li_40, li_41, li_42, li_43, li_44, li_45, li_46, li_47, li_48, li_49, li_50, li_51, li_52, li_53, li_54, li_55, li_56, li_57, li_58, li_59, li_60, li_61, li_62, li_63, li_70, li_80, li_81, li_95, li_98, li_99, li_100, li_101, li_102, li_103, li_104, li_105, li_106, li_107, li_108, li_109, li_110, li_111, li_112, li_120, li_122, li_124, li_126, li_130, li_168, li_175, li_200, li_255, li_260, li_360, li_1440, li_12345, li_1000000, li_1103515245, neg_nI, nltT, nltF, neqT, neqF, mlt_n, nlt_m, meq_n, neq_m, meq_mT, meq_mF, mlt_mT, mlt_mF, nI_cl, gd_in, gd_T, Option.bind_some, pI_ne, pI_eq, pI_2, pL_1, pL_ne, pL_eq, pL_22, upEq, upN, aN_at, aN_up, nU_e, nU_n, aAdd_n, aAdd_nm, aSub_p, aSub_n, aSub_mn, aSub_mm, aMul_n, aDiv_n, aRem_n, eq_self_iff_true, h, aB_lo]
theorem m_faulty {s : SS} {h : Nat} (h1 : s.1 74 24 = nI h) (h2 : s.1 74 25 = mI 1) : f_X12_faulty s = some (pI s 74 25 (nI h)) := by
  unfold f_X12_faulty
  simp (disch := omega) only [↓reduceIte, li_0, li_1, li_2, li_3, li_4, li_5, li_6, li_7, li_8, li_9, li_10, li_11, li_12, li_13, li_14, li_15, li_16, li_17, li_18, li_19, li_20, li_21, li_22, li_23, li_24, li_25, li_26, li_27, li_28, li_29, li_30, li_31, li_32, li_33, li_34, li_35, li_36, li_37, li_38, li_39, li_40, li_41, li_42, li_43, li_44, li_45, li_46, li_47, li_48, li_49, li_50, li_51, li_52, li_53, li_54, li_55, li_56, li_57, li_58, li_59, li_60, li_61, li_62, li_63, li_70, li_80, li_81, li_95, li_98, li_99, li_100, li_101, li_102, li_103, li_104, li_105, li_106, li_107, li_108, li_109, li_110, li_111, li_112, li_120, li_122, li_124, li_126, li_130, li_168, li_175, li_200, li_255, li_260, li_360, li_1440, li_12345, li_1000000, li_1103515245, neg_nI, nltT, nltF, neqT, neqF, mlt_n, nlt_m, meq_n, neq_m, meq_mT, meq_mF, mlt_mT, mlt_mF, nI_cl, gd_in, gd_T, Option.bind_some, pI_ne, pI_eq, pI_2, pL_1, pL_ne, pL_eq, pL_22, upEq, upN, aN_at, aN_up, nU_e, nU_n, aAdd_n, aAdd_nm, aSub_p, aSub_n, aSub_mn, aSub_mm, aMul_n, aDiv_n, aRem_n, eq_self_iff_true, h1, h2]
/-! steps, worked on a pile -/
def bcF (c : Int32) : Prop := c = nI 37 ∨ c = nI 38 ∨ c = nI 42 ∨ c = nI 43 ∨ c = nI 45 ∨ c = nI 47 ∨ c = nI 60 ∨ c = nI 61 ∨ c = nI 62 ∨ c = nI 124
noncomputable def stM (c w : Int32) (v : Nat → Int32) (q : Nat × (Nat → Int32)) : Option (Nat × (Nat → Int32)) :=
  if c = nI 1 then (if q.1 < 130 then some (q.1 + 1, va_up q.2 q.1 w) else none)
  else if c = nI 2 then (if q.1 < 130 ∧ inR 6 w = true then some (q.1 + 1, va_up q.2 q.1 (v w.toNatClampNeg)) else none)
  else if c = nI 3 then (if 1 ≤ q.1 ∧ q.1 ≤ 130 then some (q.1, va_up q.2 (q.1 - 1) (jnF (nI 33) (q.2 (q.1 - 1)) (nI 0))) else none)
  else if c = nI 4 then (if 1 ≤ q.1 ∧ q.1 ≤ 130 then some (q.1, va_up q.2 (q.1 - 1) (jnF (nI 95) (q.2 (q.1 - 1)) (nI 0))) else none)
  else (if 2 ≤ q.1 ∧ q.1 ≤ 130 then some (q.1 - 1, va_up q.2 (q.1 - 2) (jnF c (q.2 (q.1 - 2)) (q.2 (q.1 - 1)))) else none)
noncomputable def rnM (a w : Nat → Int32) (v : Nat → Int32) : Nat → Nat → Nat × (Nat → Int32) → Option (Nat × (Nat → Int32))
  | 0, _, q => some q
  | n + 1, k, q => (stM (a k) (w k) v q).bind fun q' => rnM a w v n (k + 1) q'
theorem rn_app {a w v : Nat → Int32} : ∀ m n k q, rnM a w v (m + n) k q = (rnM a w v m k q).bind fun q' => rnM a w v n (k + m) q' := by
  intro m
  induction m with
  | zero => intro n k q; rw [Nat.zero_add]; rfl
  | succ m ih =>
    intro n k q
    rw [show m + 1 + n = (m + n) + 1 by omega, rnM, rnM]
    cases hs : stM (a k) (w k) v q with
    | none => rfl
    | some q' =>
      rw [Option.bind_some, Option.bind_some, ih n (k + 1) q', show k + 1 + m = k + (m + 1) by omega]
theorem rn_ext {a w a' w' v : Nat → Int32} : ∀ n k q, (∀ j, k ≤ j → j < k + n → a' j = a j ∧ w' j = w j) → rnM a' w' v n k q = rnM a w v n k q := by
  intro n
  induction n with
  | zero => intro k q _; rfl
  | succ n ih =>
    intro k q h
    rw [rnM, rnM, (h k (by omega) (by omega)).1, (h k (by omega) (by omega)).2]
    cases stM (a k) (w k) v q with
    | none => rfl
    | some q' => rw [Option.bind_some, Option.bind_some]; exact ih (k + 1) q' (fun j x y => h j (by omega) (by omega))
/-- a step's code -/
def okC (c : Int32) : Prop := c = nI 1 ∨ c = nI 2 ∨ c = nI 3 ∨ c = nI 4 ∨ bcF c
/-- the steps from l to l' come to e -/
def SDf (a w : Nat → Int32) (l l' : Nat) (e : Dn) : Prop := l < l' ∧ (∀ k, l ≤ k → k < l' → okC (a k)) ∧ ∀ v n p, n + (l' - l) ≤ 130 → ∃ p', rnM a w v (l' - l) l (n, p) = some (n + 1, p') ∧ p' n = e v ∧ ∀ j, j < n → p' j = p j
theorem SDf_ext {a w a' w' : Nat → Int32} {l l' : Nat} {e : Dn} (h : SDf a w l l' e) (f : ∀ k, l ≤ k → k < l' → a' k = a k ∧ w' k = w k) : SDf a' w' l l' e := by
  refine ⟨h.1, fun k x y => by rw [(f k x y).1]; exact h.2.1 k x y, fun v n p hn => ?_⟩
  obtain ⟨p', x, b⟩ := h.2.2 v n p hn
  refine ⟨p', ?_, b⟩
  have hl := h.1
  rw [← x]
  exact rn_ext _ _ _ (fun j x y => f j (by omega) (by omega))
def SD (s : SS) (l l' : Nat) (e : Dn) : Prop := SDf (fun k => s.1 90 (130 + k)) (fun k => s.1 91 (130 + k)) l l' e
theorem SD_fr {s s' : SS} {l l' : Nat} {e : Dn} (h : SD s l l' e) (f : ∀ k, k < 130 + l' → s'.1 90 k = s.1 90 k ∧ s'.1 91 k = s.1 91 k) : SD s' l l' e := SDf_ext h (fun k _ y => f (130 + k) (by omega))
theorem SD_bin {s : SS} {l l1 l2 c : Nat} {e1 e2 : Dn} (h1 : SD s l l1 e1) (h2 : SD s l1 l2 e2) (hc : s.1 90 (130 + l2) = nI c) (hc4 : 4 < c) (hc2 : c < 128) (hb : bcF (nI c)) : SD s l (l2 + 1) (fun v => jnF (nI c) (e1 v) (e2 v)) := by
  obtain ⟨x1, x0, x2⟩ := h1
  obtain ⟨y1, y0, y2⟩ := h2
  refine ⟨by omega, fun k a b => ?_, fun v n p hn => ?_⟩
  · rcases Nat.lt_or_ge k l1 with z | z
    · exact x0 k a z
    · rcases Nat.lt_or_ge k l2 with z2 | z2
      · exact y0 k z z2
      · have : k = l2 := by omega
        subst this
        show okC (s.1 90 (130 + k))
        rw [hc]
        exact Or.inr (Or.inr (Or.inr (Or.inr hb)))
  obtain ⟨p1, a1, a2, a3⟩ := x2 v n p (by omega)
  obtain ⟨p2, b1, b2, b3⟩ := y2 v (n + 1) p1 (by omega)
  refine ⟨va_up p2 n (jnF (nI c) (e1 v) (e2 v)), ?_, upEq rfl, fun j hj => by rw [upN (by omega), b3 j (by omega), a3 j hj]⟩
  rw [show l2 + 1 - l = (l1 - l) + ((l2 - l1) + 1) by omega, rn_app, a1, Option.bind_some, rn_app, show l + (l1 - l) = l1 by omega, b1, Option.bind_some, show l1 + (l2 - l1) = l2 by omega, rnM]
  have st : stM (s.1 90 (130 + l2)) (s.1 91 (130 + l2)) v (n + 1 + 1, p2) = some (n + 1, va_up p2 n (jnF (nI c) (e1 v) (e2 v))) := by
    rw [hc]
    unfold stM
    rw [if_neg (of_eq_false (neqF (by omega) (by omega) (by omega))), if_neg (of_eq_false (neqF (by omega) (by omega) (by omega))), if_neg (of_eq_false (neqF (by omega) (by omega) (by omega))), if_neg (of_eq_false (neqF (by omega) (by omega) (by omega))), if_pos (by show 2 ≤ n + 1 + 1 ∧ n + 1 + 1 ≤ 130; omega)]
    have e1' : p2 n = e1 v := by rw [b3 n (by omega), a2]
    show some (n + 1, va_up p2 (n + 1 + 1 - 2) (jnF (nI c) (p2 (n + 1 + 1 - 2)) (p2 (n + 1 + 1 - 1)))) = _
    rw [show n + 1 + 1 - 2 = n by omega, show n + 1 + 1 - 1 = n + 1 by omega, e1', b2]
  rw [st]
  rfl
theorem SD_un {s : SS} {l l1 c : Nat} {e1 : Dn} (h1 : SD s l l1 e1) (hc : s.1 90 (130 + l1) = nI c) (hc3 : c = 3 ∨ c = 4) : SD s l (l1 + 1) (fun v => jnF (if c = 3 then nI 33 else nI 95) (e1 v) (v 0)) := by
  obtain ⟨x1, x0, x2⟩ := h1
  refine ⟨by omega, fun k a b => ?_, fun v n p hn => ?_⟩
  · rcases Nat.lt_or_ge k l1 with z | z
    · exact x0 k a z
    · have : k = l1 := by omega
      subst this
      show okC (s.1 90 (130 + k))
      rw [hc]
      rcases hc3 with rfl | rfl
      · exact Or.inr (Or.inr (Or.inl rfl))
      · exact Or.inr (Or.inr (Or.inr (Or.inl rfl)))
  obtain ⟨p1, a1, a2, a3⟩ := x2 v n p (by omega)
  refine ⟨va_up p1 n (jnF (if c = 3 then nI 33 else nI 95) (e1 v) (v 0)), ?_, upEq rfl, fun j hj => by rw [upN (by omega), a3 j hj]⟩
  rw [show l1 + 1 - l = (l1 - l) + 1 by omega, rn_app, a1, Option.bind_some, show l + (l1 - l) = l1 by omega, rnM]
  have st : stM (s.1 90 (130 + l1)) (s.1 91 (130 + l1)) v (n + 1, p1) = some (n + 1, va_up p1 n (jnF (if c = 3 then nI 33 else nI 95) (e1 v) (v 0))) := by
    rw [hc]
    unfold stM
    rcases hc3 with rfl | rfl
    · rw [if_neg (of_eq_false (neqF (by omega) (by omega) (by omega))), if_neg (of_eq_false (neqF (by omega) (by omega) (by omega))), if_pos rfl, if_pos (by show 1 ≤ n + 1 ∧ n + 1 ≤ 130; omega), if_pos rfl]
      show some (n + 1, va_up p1 (n + 1 - 1) (jnF (nI 33) (p1 (n + 1 - 1)) (nI 0))) = _
      rw [Nat.add_sub_cancel, a2, jn_un (b' := v 0) (Or.inl rfl)]
    · rw [if_neg (of_eq_false (neqF (by omega) (by omega) (by omega))), if_neg (of_eq_false (neqF (by omega) (by omega) (by omega))), if_neg (of_eq_false (neqF (by omega) (by omega) (by omega))), if_pos rfl, if_pos (by show 1 ≤ n + 1 ∧ n + 1 ≤ 130; omega), if_neg (by omega)]
      show some (n + 1, va_up p1 (n + 1 - 1) (jnF (nI 95) (p1 (n + 1 - 1)) (nI 0))) = _
      rw [Nat.add_sub_cancel, a2, jn_un (b' := v 0) (Or.inr rfl)]
  rw [st]
  rfl
theorem SD_push {s : SS} {l : Nat} {w : Int32} (hc : s.1 90 (130 + l) = nI 1) (hw : s.1 91 (130 + l) = w) : SD s l (l + 1) (fun _ => w) := by
  refine ⟨by omega, fun k a b => ?_, fun v n p hn => ⟨va_up p n w, ?_, upEq rfl, fun j hj => upN (by omega)⟩⟩
  · have : k = l := by omega
    subst this
    exact Or.inl hc
  rw [show l + 1 - l = 0 + 1 by omega, rnM, hc, hw]
  unfold stM
  rw [if_pos rfl, if_pos (by show n < 130; omega)]
  rfl
theorem SD_name {s : SS} {l i : Nat} (hi : i < 6) (hc : s.1 90 (130 + l) = nI 2) (hw : s.1 91 (130 + l) = nI i) : SD s l (l + 1) (fun v => v i) := by
  refine ⟨by omega, fun k a b => ?_, fun v n p hn => ⟨va_up p n (v i), ?_, upEq rfl, fun j hj => upN (by omega)⟩⟩
  · have : k = l := by omega
    subst this
    exact Or.inr (Or.inl hc)
  rw [show l + 1 - l = 0 + 1 by omega, rnM, hc, hw]
  unfold stM
  rw [if_neg (of_eq_false (neqF (by omega) (by omega) (by omega))), if_pos rfl, if_pos ⟨by show n < 130; omega, inR_T hi (by omega)⟩, nI_cl (by omega)]
  rfl
