/-! small methods of both sides -/
def tB (b : Bool) : Int32 := bif b then nI 1 else nI 0
theorem tB_T : tB true = nI 1 := rfl
theorem tB_F : tB false = nI 0 := rfl
def inR (Q : Nat) (a : Int32) : Bool := decide (¬ a < nI 0 ∧ a < nI Q)
def wB (a b c : Int32) : Bool := decide (¬ a < b ∧ ¬ c < a)
theorem inR_T {Q j : Nat} (h : j < Q) (hQ : Q < 2147483648) : inR Q (nI j) = true := by
  unfold inR
  simp (disch := omega) only [↓reduceIte, li_0, li_1, li_2, li_3, li_4, li_5, li_6, li_7, li_8, li_9, li_10, li_11, li_12, li_13, li_14, li_15, li_16, li_17, li_18, li_19, li_20, li_21, li_22, li_23, li_24, li_25, li_26, li_27, li_28, li_29, li_30, li_31, li_32, li_33, li_34, li_35, li_36, li_37, li_38, li_39, li_40, li_41, li_42, li_43, li_44, li_45, li_46, li_47, li_48, li_49, li_50, li_51, li_52, li_53, li_54, li_55, li_56, li_57, li_58, li_59, li_60, li_61, li_62, li_63, li_70, li_80, li_81, li_95, li_98, li_99, li_100, li_101, li_102, li_103, li_104, li_105, li_106, li_107, li_108, li_109, li_110, li_111, li_112, li_120, li_122, li_124, li_126, li_130, li_168, li_175, li_200, li_255, li_260, li_360, li_1440, li_12345, li_1000000, li_1103515245, neg_nI, nltT, nltF, neqT, neqF, mlt_n, nlt_m, meq_n, neq_m, meq_mT, meq_mF, mlt_mT, mlt_mF, nI_cl, gd_in, gd_T, Option.bind_some, pI_ne, pI_eq, pI_2, pL_1, pL_ne, pL_eq, pL_22, upEq, upN, aN_at, aN_up, nU_e, nU_n, aAdd_n, aAdd_nm, aSub_p, aSub_n, aSub_mn, aSub_mm, aMul_n, aDiv_n, aRem_n, eq_self_iff_true]
  decide
theorem inR_F {Q j : Nat} (h : Q ≤ j) (hQ : j < 2147483648) : inR Q (nI j) = false := by
  unfold inR
  simp (disch := omega) only [↓reduceIte, li_0, li_1, li_2, li_3, li_4, li_5, li_6, li_7, li_8, li_9, li_10, li_11, li_12, li_13, li_14, li_15, li_16, li_17, li_18, li_19, li_20, li_21, li_22, li_23, li_24, li_25, li_26, li_27, li_28, li_29, li_30, li_31, li_32, li_33, li_34, li_35, li_36, li_37, li_38, li_39, li_40, li_41, li_42, li_43, li_44, li_45, li_46, li_47, li_48, li_49, li_50, li_51, li_52, li_53, li_54, li_55, li_56, li_57, li_58, li_59, li_60, li_61, li_62, li_63, li_70, li_80, li_81, li_95, li_98, li_99, li_100, li_101, li_102, li_103, li_104, li_105, li_106, li_107, li_108, li_109, li_110, li_111, li_112, li_120, li_122, li_124, li_126, li_130, li_168, li_175, li_200, li_255, li_260, li_360, li_1440, li_12345, li_1000000, li_1103515245, neg_nI, nltT, nltF, neqT, neqF, mlt_n, nlt_m, meq_n, neq_m, meq_mT, meq_mF, mlt_mT, mlt_mF, nI_cl, gd_in, gd_T, Option.bind_some, pI_ne, pI_eq, pI_2, pL_1, pL_ne, pL_eq, pL_22, upEq, upN, aN_at, aN_up, nU_e, nU_n, aAdd_n, aAdd_nm, aSub_p, aSub_n, aSub_mn, aSub_mm, aMul_n, aDiv_n, aRem_n, eq_self_iff_true]
  decide
theorem inR_cs (Q : Nat) (hQ : Q < 2147483648) (a : Int32) : inR Q a = false ∨ ∃ j, j < Q ∧ a = nI j := by
  rcases pk_ix a (n := Q) hQ with h | h | h
  · left
    unfold inR
    exact decide_eq_false fun e => e.1 h
  · left
    unfold inR
    refine decide_eq_false fun e => ?_
    have h1 := Int32.le_iff_toInt_le.mp h
    have h2 := Int32.lt_iff_toInt_lt.mp e.2
    omega
  · exact Or.inr h
theorem wB_T {l h j : Nat} (h1 : l ≤ j) (h2 : j ≤ h) (hh : h < 2147483648) : wB (nI j) (nI l) (nI h) = true := by
  unfold wB
  simp (disch := omega) only [↓reduceIte, li_0, li_1, li_2, li_3, li_4, li_5, li_6, li_7, li_8, li_9, li_10, li_11, li_12, li_13, li_14, li_15, li_16, li_17, li_18, li_19, li_20, li_21, li_22, li_23, li_24, li_25, li_26, li_27, li_28, li_29, li_30, li_31, li_32, li_33, li_34, li_35, li_36, li_37, li_38, li_39, li_40, li_41, li_42, li_43, li_44, li_45, li_46, li_47, li_48, li_49, li_50, li_51, li_52, li_53, li_54, li_55, li_56, li_57, li_58, li_59, li_60, li_61, li_62, li_63, li_70, li_80, li_81, li_95, li_98, li_99, li_100, li_101, li_102, li_103, li_104, li_105, li_106, li_107, li_108, li_109, li_110, li_111, li_112, li_120, li_122, li_124, li_126, li_130, li_168, li_175, li_200, li_255, li_260, li_360, li_1440, li_12345, li_1000000, li_1103515245, neg_nI, nltT, nltF, neqT, neqF, mlt_n, nlt_m, meq_n, neq_m, meq_mT, meq_mF, mlt_mT, mlt_mF, nI_cl, gd_in, gd_T, Option.bind_some, pI_ne, pI_eq, pI_2, pL_1, pL_ne, pL_eq, pL_22, upEq, upN, aN_at, aN_up, nU_e, nU_n, aAdd_n, aAdd_nm, aSub_p, aSub_n, aSub_mn, aSub_mm, aMul_n, aDiv_n, aRem_n, eq_self_iff_true]
  decide
theorem wB_cs (l h : Nat) (hl : l < 2147483648) (hh : h < 2147483647) (a : Int32) : wB a (nI l) (nI h) = false ∨ ∃ j, l ≤ j ∧ j ≤ h ∧ a = nI j := by
  by_cases hc : wB a (nI l) (nI h) = true
  · right
    unfold wB at hc
    have hc := of_decide_eq_true hc
    have e1 : ¬ a.toInt < (l : Int) := fun e => hc.1 (Int32.lt_iff_toInt_lt.mpr (by rw [tI hl]; exact e))
    have e2 : ¬ (h : Int) < a.toInt := fun e => hc.2 (Int32.lt_iff_toInt_lt.mpr (by rw [tI (by omega)]; exact e))
    rcases pk_ix a (n := h + 1) (by omega) with h3 | h3 | ⟨j, hj, rfl⟩
    · exfalso
      have := Int32.lt_iff_toInt_lt.mp h3
      have e0 : (0 : Int32).toInt = 0 := rfl
      omega
    · exfalso
      have := Int32.le_iff_toInt_le.mp h3
      rw [tI (by omega)] at this
      omega
    · rw [tI (by omega)] at e1 e2
      exact ⟨j, by omega, by omega, rfl⟩
  · left
    exact Bool.eq_false_iff.mpr hc
theorem c_within (a b c : Int32) (s : SS) : f_X11_within a b c s = some (tB (wB a b c), s) := by
  unfold f_X11_within wB
  by_cases h1 : a < b
  · rw [if_pos h1, decide_eq_false (fun e => e.1 h1)]; rfl
  · rw [if_neg h1]
    by_cases h2 : c < a
    · rw [if_pos h2, decide_eq_false (fun e => e.2 h2)]; rfl
    · rw [if_neg h2, decide_eq_true ⟨h1, h2⟩]; rfl
theorem m_in (a b c : Int32) (s : SS) : f_X12_in a b c s = some (tB (wB a b c), s) := c_within a b c s
theorem c_hasPlace {s : SS} {Q : Nat} (h : s.1 1 1 = nI Q) (a : Int32) : f_X9_hasPlace a s = some (tB (inR Q a), s) := by
  unfold f_X9_hasPlace inR
  rw [h, li_0]
  by_cases h1 : a < nI 0
  · rw [if_pos h1, decide_eq_false (fun e => e.1 h1)]; rfl
  · rw [if_neg h1]
    by_cases h2 : a < nI Q
    · rw [if_pos h2, decide_eq_true ⟨h1, h2⟩]; rfl
    · rw [if_neg h2, decide_eq_false (fun e => h2 e.2)]; rfl
theorem c_hasPerson {s : SS} {P : Nat} (h : s.1 1 0 = nI P) (a : Int32) : f_X9_hasPerson a s = some (tB (inR P a), s) := by
  unfold f_X9_hasPerson inR
  rw [h, li_0]
  by_cases h1 : a < nI 0
  · rw [if_pos h1, decide_eq_false (fun e => e.1 h1)]; rfl
  · rw [if_neg h1]
    by_cases h2 : a < nI P
    · rw [if_pos h2, decide_eq_true ⟨h1, h2⟩]; rfl
    · rw [if_neg h2, decide_eq_false (fun e => h2 e.2)]; rfl
