/-! the law over the states -/
theorem L_end {xs : Nat → Int32} {L i n : Nat} {s : SS} (hL : L ≤ 3072) (h : L < i + 6) (hi : i ≤ 4000) : F_L_law_18 xs L (n + 1) (nI i) s = some (nI 1, s) := by
  rw [F_L_law_18]
  have e : Int32.ofNat L = nI L := rfl
  rw [e]
  rcases Nat.lt_or_ge L 6 with c | c
  · simp (disch := omega) only [↓reduceIte, li_0, li_1, li_2, li_3, li_4, li_5, li_6, li_7, li_8, li_9, li_10, li_11, li_12, li_13, li_14, li_15, li_16, li_17, li_18, li_19, li_20, li_21, li_22, li_23, li_24, li_25, li_26, li_27, li_28, li_29, li_30, li_31, li_32, li_33, li_34, li_35, li_36, li_37, li_38, li_39, li_40, li_41, li_42, li_43, li_44, li_45, li_46, li_47, li_48, li_49, li_50, li_51, li_52, li_53, li_54, li_55, li_56, li_57, li_58, li_59, li_60, li_61, li_62, li_63, li_70, li_80, li_81, li_95, li_98, li_99, li_100, li_101, li_102, li_103, li_104, li_105, li_106, li_107, li_108, li_109, li_110, li_111, li_112, li_120, li_122, li_124, li_126, li_130, li_168, li_175, li_200, li_255, li_260, li_360, li_1440, li_12345, li_1000000, li_1103515245, neg_nI, nltT, nltF, neqT, neqF, mlt_n, nlt_m, meq_n, neq_m, meq_mT, meq_mF, mlt_mT, mlt_mF, nI_cl, gd_in, gd_T, Option.bind_some, pI_ne, pI_eq, pI_2, pL_1, pL_ne, pL_eq, pL_22, upEq, upN, aN_at, aN_up, nU_e, nU_n, aAdd_n, aAdd_nm, aSub_p, aSub_n, aSub_mn, aSub_mm, aMul_n, aDiv_n, aRem_n, eq_self_iff_true]
  · simp (disch := omega) only [↓reduceIte, li_0, li_1, li_2, li_3, li_4, li_5, li_6, li_7, li_8, li_9, li_10, li_11, li_12, li_13, li_14, li_15, li_16, li_17, li_18, li_19, li_20, li_21, li_22, li_23, li_24, li_25, li_26, li_27, li_28, li_29, li_30, li_31, li_32, li_33, li_34, li_35, li_36, li_37, li_38, li_39, li_40, li_41, li_42, li_43, li_44, li_45, li_46, li_47, li_48, li_49, li_50, li_51, li_52, li_53, li_54, li_55, li_56, li_57, li_58, li_59, li_60, li_61, li_62, li_63, li_70, li_80, li_81, li_95, li_98, li_99, li_100, li_101, li_102, li_103, li_104, li_105, li_106, li_107, li_108, li_109, li_110, li_111, li_112, li_120, li_122, li_124, li_126, li_130, li_168, li_175, li_200, li_255, li_260, li_360, li_1440, li_12345, li_1000000, li_1103515245, neg_nI, nltT, nltF, neqT, neqF, mlt_n, nlt_m, meq_n, neq_m, meq_mT, meq_mF, mlt_mT, mlt_mF, nI_cl, gd_in, gd_T, Option.bind_some, pI_ne, pI_eq, pI_2, pL_1, pL_ne, pL_eq, pL_22, upEq, upN, aN_at, aN_up, nU_e, nU_n, aAdd_n, aAdd_nm, aSub_p, aSub_n, aSub_mn, aSub_mm, aMul_n, aDiv_n, aRem_n, eq_self_iff_true]
theorem L_0 {xs : Nat → Int32} {L i B : Nat} {s : SS} (hB : B < 1073740000) (hL : L ≤ 3072) (h : i + 6 ≤ L) (hI : Inv B s) (hv : aAnd (xs i) (nI 63) = nI 0) : ∃ s2, Inv (B + 144) s2 ∧ ∀ n, F_L_law_18 xs L (n + 1) (nI i) s = F_L_law_18 xs L n (nI (i + 6)) s2 := by
  obtain ⟨r, s1, s2, a1, a2, a3⟩ := o_place hI (xs (i + 1))
  refine ⟨s2, a3, fun n => ?_⟩
  rw [F_L_law_18]
  have e : Int32.ofNat L = nI L := rfl
  rw [e]
  simp (disch := omega) only [↓reduceIte, li_0, li_1, li_2, li_3, li_4, li_5, li_6, li_7, li_8, li_9, li_10, li_11, li_12, li_13, li_14, li_15, li_16, li_17, li_18, li_19, li_20, li_21, li_22, li_23, li_24, li_25, li_26, li_27, li_28, li_29, li_30, li_31, li_32, li_33, li_34, li_35, li_36, li_37, li_38, li_39, li_40, li_41, li_42, li_43, li_44, li_45, li_46, li_47, li_48, li_49, li_50, li_51, li_52, li_53, li_54, li_55, li_56, li_57, li_58, li_59, li_60, li_61, li_62, li_63, li_70, li_80, li_81, li_95, li_98, li_99, li_100, li_101, li_102, li_103, li_104, li_105, li_106, li_107, li_108, li_109, li_110, li_111, li_112, li_120, li_122, li_124, li_126, li_130, li_168, li_175, li_200, li_255, li_260, li_360, li_1440, li_12345, li_1000000, li_1103515245, neg_nI, nltT, nltF, neqT, neqF, mlt_n, nlt_m, meq_n, neq_m, meq_mT, meq_mF, mlt_mT, mlt_mF, nI_cl, gd_in, gd_T, Option.bind_some, pI_ne, pI_eq, pI_2, pL_1, pL_ne, pL_eq, pL_22, upEq, upN, aN_at, aN_up, nU_e, nU_n, aAdd_n, aAdd_nm, aSub_p, aSub_n, aSub_mn, aSub_mm, aMul_n, aDiv_n, aRem_n, eq_self_iff_true, hv, a1, a2]
theorem L_1 {xs : Nat → Int32} {L i B : Nat} {s : SS} (hB : B < 1073740000) (hL : L ≤ 3072) (h : i + 6 ≤ L) (hI : Inv B s) (hv : aAnd (xs i) (nI 63) = nI 1) : ∃ s2, Inv (B + 144) s2 ∧ ∀ n, F_L_law_18 xs L (n + 1) (nI i) s = F_L_law_18 xs L n (nI (i + 6)) s2 := by
  obtain ⟨r, s1, s2, a1, a2, a3⟩ := o_way hI (xs (i + 1))
  refine ⟨s2, a3, fun n => ?_⟩
  rw [F_L_law_18]
  have e : Int32.ofNat L = nI L := rfl
  rw [e]
  simp (disch := omega) only [↓reduceIte, li_0, li_1, li_2, li_3, li_4, li_5, li_6, li_7, li_8, li_9, li_10, li_11, li_12, li_13, li_14, li_15, li_16, li_17, li_18, li_19, li_20, li_21, li_22, li_23, li_24, li_25, li_26, li_27, li_28, li_29, li_30, li_31, li_32, li_33, li_34, li_35, li_36, li_37, li_38, li_39, li_40, li_41, li_42, li_43, li_44, li_45, li_46, li_47, li_48, li_49, li_50, li_51, li_52, li_53, li_54, li_55, li_56, li_57, li_58, li_59, li_60, li_61, li_62, li_63, li_70, li_80, li_81, li_95, li_98, li_99, li_100, li_101, li_102, li_103, li_104, li_105, li_106, li_107, li_108, li_109, li_110, li_111, li_112, li_120, li_122, li_124, li_126, li_130, li_168, li_175, li_200, li_255, li_260, li_360, li_1440, li_12345, li_1000000, li_1103515245, neg_nI, nltT, nltF, neqT, neqF, mlt_n, nlt_m, meq_n, neq_m, meq_mT, meq_mF, mlt_mT, mlt_mF, nI_cl, gd_in, gd_T, Option.bind_some, pI_ne, pI_eq, pI_2, pL_1, pL_ne, pL_eq, pL_22, upEq, upN, aN_at, aN_up, nU_e, nU_n, aAdd_n, aAdd_nm, aSub_p, aSub_n, aSub_mn, aSub_mm, aMul_n, aDiv_n, aRem_n, eq_self_iff_true, hv, a1, a2]
theorem L_2 {xs : Nat → Int32} {L i B : Nat} {s : SS} (hB : B < 1073740000) (hL : L ≤ 3072) (h : i + 6 ≤ L) (hI : Inv B s) (hv : aAnd (xs i) (nI 63) = nI 2) : ∃ s2, Inv (B + 144) s2 ∧ ∀ n, F_L_law_18 xs L (n + 1) (nI i) s = F_L_law_18 xs L n (nI (i + 6)) s2 := by
  obtain ⟨r, s1, s2, a1, a2, a3⟩ := o_person hI (xs (i + 1)) (xs (i + 2))
  refine ⟨s2, a3, fun n => ?_⟩
  rw [F_L_law_18]
  have e : Int32.ofNat L = nI L := rfl
  rw [e]
  simp (disch := omega) only [↓reduceIte, li_0, li_1, li_2, li_3, li_4, li_5, li_6, li_7, li_8, li_9, li_10, li_11, li_12, li_13, li_14, li_15, li_16, li_17, li_18, li_19, li_20, li_21, li_22, li_23, li_24, li_25, li_26, li_27, li_28, li_29, li_30, li_31, li_32, li_33, li_34, li_35, li_36, li_37, li_38, li_39, li_40, li_41, li_42, li_43, li_44, li_45, li_46, li_47, li_48, li_49, li_50, li_51, li_52, li_53, li_54, li_55, li_56, li_57, li_58, li_59, li_60, li_61, li_62, li_63, li_70, li_80, li_81, li_95, li_98, li_99, li_100, li_101, li_102, li_103, li_104, li_105, li_106, li_107, li_108, li_109, li_110, li_111, li_112, li_120, li_122, li_124, li_126, li_130, li_168, li_175, li_200, li_255, li_260, li_360, li_1440, li_12345, li_1000000, li_1103515245, neg_nI, nltT, nltF, neqT, neqF, mlt_n, nlt_m, meq_n, neq_m, meq_mT, meq_mF, mlt_mT, mlt_mF, nI_cl, gd_in, gd_T, Option.bind_some, pI_ne, pI_eq, pI_2, pL_1, pL_ne, pL_eq, pL_22, upEq, upN, aN_at, aN_up, nU_e, nU_n, aAdd_n, aAdd_nm, aSub_p, aSub_n, aSub_mn, aSub_mm, aMul_n, aDiv_n, aRem_n, eq_self_iff_true, hv, a1, a2]
theorem L_3 {xs : Nat → Int32} {L i B : Nat} {s : SS} (hB : B < 1073740000) (hL : L ≤ 3072) (h : i + 6 ≤ L) (hI : Inv B s) (hv : aAnd (xs i) (nI 63) = nI 3) : ∃ s2, Inv (B + 144) s2 ∧ ∀ n, F_L_law_18 xs L (n + 1) (nI i) s = F_L_law_18 xs L n (nI (i + 6)) s2 := by
  obtain ⟨r, s1, s2, a1, a2, a3⟩ := o_people hI (xs (i + 1)) (xs (i + 2)) (xs (i + 3))
  refine ⟨s2, a3, fun n => ?_⟩
  rw [F_L_law_18]
  have e : Int32.ofNat L = nI L := rfl
  rw [e]
  simp (disch := omega) only [↓reduceIte, li_0, li_1, li_2, li_3, li_4, li_5, li_6, li_7, li_8, li_9, li_10, li_11, li_12, li_13, li_14, li_15, li_16, li_17, li_18, li_19, li_20, li_21, li_22, li_23, li_24, li_25, li_26, li_27, li_28, li_29, li_30, li_31, li_32, li_33, li_34, li_35, li_36, li_37, li_38, li_39, li_40, li_41, li_42, li_43, li_44, li_45, li_46, li_47, li_48, li_49, li_50, li_51, li_52, li_53, li_54, li_55, li_56, li_57, li_58, li_59, li_60, li_61, li_62, li_63, li_70, li_80, li_81, li_95, li_98, li_99, li_100, li_101, li_102, li_103, li_104, li_105, li_106, li_107, li_108, li_109, li_110, li_111, li_112, li_120, li_122, li_124, li_126, li_130, li_168, li_175, li_200, li_255, li_260, li_360, li_1440, li_12345, li_1000000, li_1103515245, neg_nI, nltT, nltF, neqT, neqF, mlt_n, nlt_m, meq_n, neq_m, meq_mT, meq_mF, mlt_mT, mlt_mF, nI_cl, gd_in, gd_T, Option.bind_some, pI_ne, pI_eq, pI_2, pL_1, pL_ne, pL_eq, pL_22, upEq, upN, aN_at, aN_up, nU_e, nU_n, aAdd_n, aAdd_nm, aSub_p, aSub_n, aSub_mn, aSub_mm, aMul_n, aDiv_n, aRem_n, eq_self_iff_true, hv, a1, a2]
theorem L_4 {xs : Nat → Int32} {L i B : Nat} {s : SS} (hB : B < 1073740000) (hL : L ≤ 3072) (h : i + 6 ≤ L) (hI : Inv B s) (hv : aAnd (xs i) (nI 63) = nI 4) : ∃ s2, Inv (B + 144) s2 ∧ ∀ n, F_L_law_18 xs L (n + 1) (nI i) s = F_L_law_18 xs L n (nI (i + 6)) s2 := by
  obtain ⟨r, s1, s2, a1, a2, a3⟩ := o_mend hI (xs (i + 1)) (xs (i + 2)) (xs (i + 3))
  refine ⟨s2, a3, fun n => ?_⟩
  rw [F_L_law_18]
  have e : Int32.ofNat L = nI L := rfl
  rw [e]
  simp (disch := omega) only [↓reduceIte, li_0, li_1, li_2, li_3, li_4, li_5, li_6, li_7, li_8, li_9, li_10, li_11, li_12, li_13, li_14, li_15, li_16, li_17, li_18, li_19, li_20, li_21, li_22, li_23, li_24, li_25, li_26, li_27, li_28, li_29, li_30, li_31, li_32, li_33, li_34, li_35, li_36, li_37, li_38, li_39, li_40, li_41, li_42, li_43, li_44, li_45, li_46, li_47, li_48, li_49, li_50, li_51, li_52, li_53, li_54, li_55, li_56, li_57, li_58, li_59, li_60, li_61, li_62, li_63, li_70, li_80, li_81, li_95, li_98, li_99, li_100, li_101, li_102, li_103, li_104, li_105, li_106, li_107, li_108, li_109, li_110, li_111, li_112, li_120, li_122, li_124, li_126, li_130, li_168, li_175, li_200, li_255, li_260, li_360, li_1440, li_12345, li_1000000, li_1103515245, neg_nI, nltT, nltF, neqT, neqF, mlt_n, nlt_m, meq_n, neq_m, meq_mT, meq_mF, mlt_mT, mlt_mF, nI_cl, gd_in, gd_T, Option.bind_some, pI_ne, pI_eq, pI_2, pL_1, pL_ne, pL_eq, pL_22, upEq, upN, aN_at, aN_up, nU_e, nU_n, aAdd_n, aAdd_nm, aSub_p, aSub_n, aSub_mn, aSub_mm, aMul_n, aDiv_n, aRem_n, eq_self_iff_true, hv, a1, a2]
theorem L_5 {xs : Nat → Int32} {L i B : Nat} {s : SS} (hB : B < 1073740000) (hL : L ≤ 3072) (h : i + 6 ≤ L) (hI : Inv B s) (hv : aAnd (xs i) (nI 63) = nI 5) : ∃ s2, Inv (B + 144) s2 ∧ ∀ n, F_L_law_18 xs L (n + 1) (nI i) s = F_L_law_18 xs L n (nI (i + 6)) s2 := by
  obtain ⟨r, s1, s2, a1, a2, a3⟩ := o_of hI (xs (i + 1)) (xs (i + 2))
  refine ⟨s2, a3, fun n => ?_⟩
  rw [F_L_law_18]
  have e : Int32.ofNat L = nI L := rfl
  rw [e]
  simp (disch := omega) only [↓reduceIte, li_0, li_1, li_2, li_3, li_4, li_5, li_6, li_7, li_8, li_9, li_10, li_11, li_12, li_13, li_14, li_15, li_16, li_17, li_18, li_19, li_20, li_21, li_22, li_23, li_24, li_25, li_26, li_27, li_28, li_29, li_30, li_31, li_32, li_33, li_34, li_35, li_36, li_37, li_38, li_39, li_40, li_41, li_42, li_43, li_44, li_45, li_46, li_47, li_48, li_49, li_50, li_51, li_52, li_53, li_54, li_55, li_56, li_57, li_58, li_59, li_60, li_61, li_62, li_63, li_70, li_80, li_81, li_95, li_98, li_99, li_100, li_101, li_102, li_103, li_104, li_105, li_106, li_107, li_108, li_109, li_110, li_111, li_112, li_120, li_122, li_124, li_126, li_130, li_168, li_175, li_200, li_255, li_260, li_360, li_1440, li_12345, li_1000000, li_1103515245, neg_nI, nltT, nltF, neqT, neqF, mlt_n, nlt_m, meq_n, neq_m, meq_mT, meq_mF, mlt_mT, mlt_mF, nI_cl, gd_in, gd_T, Option.bind_some, pI_ne, pI_eq, pI_2, pL_1, pL_ne, pL_eq, pL_22, upEq, upN, aN_at, aN_up, nU_e, nU_n, aAdd_n, aAdd_nm, aSub_p, aSub_n, aSub_mn, aSub_mm, aMul_n, aDiv_n, aRem_n, eq_self_iff_true, hv, a1, a2]
theorem L_6 {xs : Nat → Int32} {L i B : Nat} {s : SS} (hB : B < 1073740000) (hL : L ≤ 3072) (h : i + 6 ≤ L) (hI : Inv B s) (hv : aAnd (xs i) (nI 63) = nI 6) : ∃ s2, Inv (B + 144) s2 ∧ ∀ n, F_L_law_18 xs L (n + 1) (nI i) s = F_L_law_18 xs L n (nI (i + 6)) s2 := by
  obtain ⟨r, s1, s2, a1, a2, a3⟩ := o_feed hI (xs (i + 1))
  refine ⟨s2, a3, fun n => ?_⟩
  rw [F_L_law_18]
  have e : Int32.ofNat L = nI L := rfl
  rw [e]
  simp (disch := omega) only [↓reduceIte, li_0, li_1, li_2, li_3, li_4, li_5, li_6, li_7, li_8, li_9, li_10, li_11, li_12, li_13, li_14, li_15, li_16, li_17, li_18, li_19, li_20, li_21, li_22, li_23, li_24, li_25, li_26, li_27, li_28, li_29, li_30, li_31, li_32, li_33, li_34, li_35, li_36, li_37, li_38, li_39, li_40, li_41, li_42, li_43, li_44, li_45, li_46, li_47, li_48, li_49, li_50, li_51, li_52, li_53, li_54, li_55, li_56, li_57, li_58, li_59, li_60, li_61, li_62, li_63, li_70, li_80, li_81, li_95, li_98, li_99, li_100, li_101, li_102, li_103, li_104, li_105, li_106, li_107, li_108, li_109, li_110, li_111, li_112, li_120, li_122, li_124, li_126, li_130, li_168, li_175, li_200, li_255, li_260, li_360, li_1440, li_12345, li_1000000, li_1103515245, neg_nI, nltT, nltF, neqT, neqF, mlt_n, nlt_m, meq_n, neq_m, meq_mT, meq_mF, mlt_mT, mlt_mF, nI_cl, gd_in, gd_T, Option.bind_some, pI_ne, pI_eq, pI_2, pL_1, pL_ne, pL_eq, pL_22, upEq, upN, aN_at, aN_up, nU_e, nU_n, aAdd_n, aAdd_nm, aSub_p, aSub_n, aSub_mn, aSub_mm, aMul_n, aDiv_n, aRem_n, eq_self_iff_true, hv, a1, a2]
theorem L_7 {xs : Nat → Int32} {L i B : Nat} {s : SS} (hB : B < 1073740000) (hL : L ≤ 3072) (h : i + 6 ≤ L) (hI : Inv B s) (hv : aAnd (xs i) (nI 63) = nI 7) : ∃ s2, Inv (B + 144) s2 ∧ ∀ n, F_L_law_18 xs L (n + 1) (nI i) s = F_L_law_18 xs L n (nI (i + 6)) s2 := by
  obtain ⟨r, s1, s2, a1, a2, a3⟩ := o_law hI 
  refine ⟨s2, a3, fun n => ?_⟩
  rw [F_L_law_18]
  have e : Int32.ofNat L = nI L := rfl
  rw [e]
  simp (disch := omega) only [↓reduceIte, li_0, li_1, li_2, li_3, li_4, li_5, li_6, li_7, li_8, li_9, li_10, li_11, li_12, li_13, li_14, li_15, li_16, li_17, li_18, li_19, li_20, li_21, li_22, li_23, li_24, li_25, li_26, li_27, li_28, li_29, li_30, li_31, li_32, li_33, li_34, li_35, li_36, li_37, li_38, li_39, li_40, li_41, li_42, li_43, li_44, li_45, li_46, li_47, li_48, li_49, li_50, li_51, li_52, li_53, li_54, li_55, li_56, li_57, li_58, li_59, li_60, li_61, li_62, li_63, li_70, li_80, li_81, li_95, li_98, li_99, li_100, li_101, li_102, li_103, li_104, li_105, li_106, li_107, li_108, li_109, li_110, li_111, li_112, li_120, li_122, li_124, li_126, li_130, li_168, li_175, li_200, li_255, li_260, li_360, li_1440, li_12345, li_1000000, li_1103515245, neg_nI, nltT, nltF, neqT, neqF, mlt_n, nlt_m, meq_n, neq_m, meq_mT, meq_mF, mlt_mT, mlt_mF, nI_cl, gd_in, gd_T, Option.bind_some, pI_ne, pI_eq, pI_2, pL_1, pL_ne, pL_eq, pL_22, upEq, upN, aN_at, aN_up, nU_e, nU_n, aAdd_n, aAdd_nm, aSub_p, aSub_n, aSub_mn, aSub_mm, aMul_n, aDiv_n, aRem_n, eq_self_iff_true, hv, a1, a2]
theorem L_8 {xs : Nat → Int32} {L i B : Nat} {s : SS} (hB : B < 1073740000) (hL : L ≤ 3072) (h : i + 6 ≤ L) (hI : Inv B s) (hv : aAnd (xs i) (nI 63) = nI 8) : ∃ s2, Inv (B + 144) s2 ∧ ∀ n, F_L_law_18 xs L (n + 1) (nI i) s = F_L_law_18 xs L n (nI (i + 6)) s2 := by
  obtain ⟨r, s1, s2, a1, a2, a3⟩ := o_go hB hI (xs (i + 1)) (xs (i + 2))
  refine ⟨s2, a3, fun n => ?_⟩
  rw [F_L_law_18]
  have e : Int32.ofNat L = nI L := rfl
  rw [e]
  simp (disch := omega) only [↓reduceIte, li_0, li_1, li_2, li_3, li_4, li_5, li_6, li_7, li_8, li_9, li_10, li_11, li_12, li_13, li_14, li_15, li_16, li_17, li_18, li_19, li_20, li_21, li_22, li_23, li_24, li_25, li_26, li_27, li_28, li_29, li_30, li_31, li_32, li_33, li_34, li_35, li_36, li_37, li_38, li_39, li_40, li_41, li_42, li_43, li_44, li_45, li_46, li_47, li_48, li_49, li_50, li_51, li_52, li_53, li_54, li_55, li_56, li_57, li_58, li_59, li_60, li_61, li_62, li_63, li_70, li_80, li_81, li_95, li_98, li_99, li_100, li_101, li_102, li_103, li_104, li_105, li_106, li_107, li_108, li_109, li_110, li_111, li_112, li_120, li_122, li_124, li_126, li_130, li_168, li_175, li_200, li_255, li_260, li_360, li_1440, li_12345, li_1000000, li_1103515245, neg_nI, nltT, nltF, neqT, neqF, mlt_n, nlt_m, meq_n, neq_m, meq_mT, meq_mF, mlt_mT, mlt_mF, nI_cl, gd_in, gd_T, Option.bind_some, pI_ne, pI_eq, pI_2, pL_1, pL_ne, pL_eq, pL_22, upEq, upN, aN_at, aN_up, nU_e, nU_n, aAdd_n, aAdd_nm, aSub_p, aSub_n, aSub_mn, aSub_mm, aMul_n, aDiv_n, aRem_n, eq_self_iff_true, hv, a1, a2]
theorem L_9 {xs : Nat → Int32} {L i B : Nat} {s : SS} (hB : B < 1073740000) (hL : L ≤ 3072) (h : i + 6 ≤ L) (hI : Inv B s) (hv : aAnd (xs i) (nI 63) = nI 9) : ∃ s2, Inv (B + 144) s2 ∧ ∀ n, F_L_law_18 xs L (n + 1) (nI i) s = F_L_law_18 xs L n (nI (i + 6)) s2 := by
  obtain ⟨r, s1, s2, a1, a2, a3⟩ := o_move hI (xs (i + 1)) (xs (i + 2))
  refine ⟨s2, a3, fun n => ?_⟩
  rw [F_L_law_18]
  have e : Int32.ofNat L = nI L := rfl
  rw [e]
  simp (disch := omega) only [↓reduceIte, li_0, li_1, li_2, li_3, li_4, li_5, li_6, li_7, li_8, li_9, li_10, li_11, li_12, li_13, li_14, li_15, li_16, li_17, li_18, li_19, li_20, li_21, li_22, li_23, li_24, li_25, li_26, li_27, li_28, li_29, li_30, li_31, li_32, li_33, li_34, li_35, li_36, li_37, li_38, li_39, li_40, li_41, li_42, li_43, li_44, li_45, li_46, li_47, li_48, li_49, li_50, li_51, li_52, li_53, li_54, li_55, li_56, li_57, li_58, li_59, li_60, li_61, li_62, li_63, li_70, li_80, li_81, li_95, li_98, li_99, li_100, li_101, li_102, li_103, li_104, li_105, li_106, li_107, li_108, li_109, li_110, li_111, li_112, li_120, li_122, li_124, li_126, li_130, li_168, li_175, li_200, li_255, li_260, li_360, li_1440, li_12345, li_1000000, li_1103515245, neg_nI, nltT, nltF, neqT, neqF, mlt_n, nlt_m, meq_n, neq_m, meq_mT, meq_mF, mlt_mT, mlt_mF, nI_cl, gd_in, gd_T, Option.bind_some, pI_ne, pI_eq, pI_2, pL_1, pL_ne, pL_eq, pL_22, upEq, upN, aN_at, aN_up, nU_e, nU_n, aAdd_n, aAdd_nm, aSub_p, aSub_n, aSub_mn, aSub_mm, aMul_n, aDiv_n, aRem_n, eq_self_iff_true, hv, a1, a2]
theorem L_10 {xs : Nat → Int32} {L i B : Nat} {s : SS} (hB : B < 1073740000) (hL : L ≤ 3072) (h : i + 6 ≤ L) (hI : Inv B s) (hv : aAnd (xs i) (nI 63) = nI 10) : ∃ s2, Inv (B + 144) s2 ∧ ∀ n, F_L_law_18 xs L (n + 1) (nI i) s = F_L_law_18 xs L n (nI (i + 6)) s2 := by
  obtain ⟨r, s1, s2, a1, a2, a3⟩ := o_lay hB hI (xs (i + 1))
  refine ⟨s2, a3, fun n => ?_⟩
  rw [F_L_law_18]
  have e : Int32.ofNat L = nI L := rfl
  rw [e]
  simp (disch := omega) only [↓reduceIte, li_0, li_1, li_2, li_3, li_4, li_5, li_6, li_7, li_8, li_9, li_10, li_11, li_12, li_13, li_14, li_15, li_16, li_17, li_18, li_19, li_20, li_21, li_22, li_23, li_24, li_25, li_26, li_27, li_28, li_29, li_30, li_31, li_32, li_33, li_34, li_35, li_36, li_37, li_38, li_39, li_40, li_41, li_42, li_43, li_44, li_45, li_46, li_47, li_48, li_49, li_50, li_51, li_52, li_53, li_54, li_55, li_56, li_57, li_58, li_59, li_60, li_61, li_62, li_63, li_70, li_80, li_81, li_95, li_98, li_99, li_100, li_101, li_102, li_103, li_104, li_105, li_106, li_107, li_108, li_109, li_110, li_111, li_112, li_120, li_122, li_124, li_126, li_130, li_168, li_175, li_200, li_255, li_260, li_360, li_1440, li_12345, li_1000000, li_1103515245, neg_nI, nltT, nltF, neqT, neqF, mlt_n, nlt_m, meq_n, neq_m, meq_mT, meq_mF, mlt_mT, mlt_mF, nI_cl, gd_in, gd_T, Option.bind_some, pI_ne, pI_eq, pI_2, pL_1, pL_ne, pL_eq, pL_22, upEq, upN, aN_at, aN_up, nU_e, nU_n, aAdd_n, aAdd_nm, aSub_p, aSub_n, aSub_mn, aSub_mm, aMul_n, aDiv_n, aRem_n, eq_self_iff_true, hv, a1, a2]
theorem L_11 {xs : Nat → Int32} {L i B : Nat} {s : SS} (hB : B < 1073740000) (hL : L ≤ 3072) (h : i + 6 ≤ L) (hI : Inv B s) (hv : aAnd (xs i) (nI 63) = nI 11) : ∃ s2, Inv (B + 144) s2 ∧ ∀ n, F_L_law_18 xs L (n + 1) (nI i) s = F_L_law_18 xs L n (nI (i + 6)) s2 := by
  obtain ⟨r, s1, s2, a1, a2, a3⟩ := o_commands hI 
  refine ⟨s2, a3, fun n => ?_⟩
  rw [F_L_law_18]
  have e : Int32.ofNat L = nI L := rfl
  rw [e]
  simp (disch := omega) only [↓reduceIte, li_0, li_1, li_2, li_3, li_4, li_5, li_6, li_7, li_8, li_9, li_10, li_11, li_12, li_13, li_14, li_15, li_16, li_17, li_18, li_19, li_20, li_21, li_22, li_23, li_24, li_25, li_26, li_27, li_28, li_29, li_30, li_31, li_32, li_33, li_34, li_35, li_36, li_37, li_38, li_39, li_40, li_41, li_42, li_43, li_44, li_45, li_46, li_47, li_48, li_49, li_50, li_51, li_52, li_53, li_54, li_55, li_56, li_57, li_58, li_59, li_60, li_61, li_62, li_63, li_70, li_80, li_81, li_95, li_98, li_99, li_100, li_101, li_102, li_103, li_104, li_105, li_106, li_107, li_108, li_109, li_110, li_111, li_112, li_120, li_122, li_124, li_126, li_130, li_168, li_175, li_200, li_255, li_260, li_360, li_1440, li_12345, li_1000000, li_1103515245, neg_nI, nltT, nltF, neqT, neqF, mlt_n, nlt_m, meq_n, neq_m, meq_mT, meq_mF, mlt_mT, mlt_mF, nI_cl, gd_in, gd_T, Option.bind_some, pI_ne, pI_eq, pI_2, pL_1, pL_ne, pL_eq, pL_22, upEq, upN, aN_at, aN_up, nU_e, nU_n, aAdd_n, aAdd_nm, aSub_p, aSub_n, aSub_mn, aSub_mm, aMul_n, aDiv_n, aRem_n, eq_self_iff_true, hv, a1, a2]
theorem L_12 {xs : Nat → Int32} {L i B : Nat} {s : SS} (hB : B < 1073740000) (hL : L ≤ 3072) (h : i + 6 ≤ L) (hI : Inv B s) (hv : aAnd (xs i) (nI 63) = nI 12) : ∃ s2, Inv (B + 144) s2 ∧ ∀ n, F_L_law_18 xs L (n + 1) (nI i) s = F_L_law_18 xs L n (nI (i + 6)) s2 := by
  obtain ⟨r, s1, s2, a1, a2, a3⟩ := o_led hI (xs (i + 1))
  refine ⟨s2, a3, fun n => ?_⟩
  rw [F_L_law_18]
  have e : Int32.ofNat L = nI L := rfl
  rw [e]
  simp (disch := omega) only [↓reduceIte, li_0, li_1, li_2, li_3, li_4, li_5, li_6, li_7, li_8, li_9, li_10, li_11, li_12, li_13, li_14, li_15, li_16, li_17, li_18, li_19, li_20, li_21, li_22, li_23, li_24, li_25, li_26, li_27, li_28, li_29, li_30, li_31, li_32, li_33, li_34, li_35, li_36, li_37, li_38, li_39, li_40, li_41, li_42, li_43, li_44, li_45, li_46, li_47, li_48, li_49, li_50, li_51, li_52, li_53, li_54, li_55, li_56, li_57, li_58, li_59, li_60, li_61, li_62, li_63, li_70, li_80, li_81, li_95, li_98, li_99, li_100, li_101, li_102, li_103, li_104, li_105, li_106, li_107, li_108, li_109, li_110, li_111, li_112, li_120, li_122, li_124, li_126, li_130, li_168, li_175, li_200, li_255, li_260, li_360, li_1440, li_12345, li_1000000, li_1103515245, neg_nI, nltT, nltF, neqT, neqF, mlt_n, nlt_m, meq_n, neq_m, meq_mT, meq_mF, mlt_mT, mlt_mF, nI_cl, gd_in, gd_T, Option.bind_some, pI_ne, pI_eq, pI_2, pL_1, pL_ne, pL_eq, pL_22, upEq, upN, aN_at, aN_up, nU_e, nU_n, aAdd_n, aAdd_nm, aSub_p, aSub_n, aSub_mn, aSub_mm, aMul_n, aDiv_n, aRem_n, eq_self_iff_true, hv, a1, a2]
theorem L_13 {xs : Nat → Int32} {L i B : Nat} {s : SS} (hB : B < 1073740000) (hL : L ≤ 3072) (h : i + 6 ≤ L) (hI : Inv B s) (hv : aAnd (xs i) (nI 63) = nI 13) : ∃ s2, Inv (B + 144) s2 ∧ ∀ n, F_L_law_18 xs L (n + 1) (nI i) s = F_L_law_18 xs L n (nI (i + 6)) s2 := by
  obtain ⟨r, s1, s2, a1, a2, a3⟩ := o_risk hI (xs (i + 1)) (xs (i + 2))
  refine ⟨s2, a3, fun n => ?_⟩
  rw [F_L_law_18]
  have e : Int32.ofNat L = nI L := rfl
  rw [e]
  simp (disch := omega) only [↓reduceIte, li_0, li_1, li_2, li_3, li_4, li_5, li_6, li_7, li_8, li_9, li_10, li_11, li_12, li_13, li_14, li_15, li_16, li_17, li_18, li_19, li_20, li_21, li_22, li_23, li_24, li_25, li_26, li_27, li_28, li_29, li_30, li_31, li_32, li_33, li_34, li_35, li_36, li_37, li_38, li_39, li_40, li_41, li_42, li_43, li_44, li_45, li_46, li_47, li_48, li_49, li_50, li_51, li_52, li_53, li_54, li_55, li_56, li_57, li_58, li_59, li_60, li_61, li_62, li_63, li_70, li_80, li_81, li_95, li_98, li_99, li_100, li_101, li_102, li_103, li_104, li_105, li_106, li_107, li_108, li_109, li_110, li_111, li_112, li_120, li_122, li_124, li_126, li_130, li_168, li_175, li_200, li_255, li_260, li_360, li_1440, li_12345, li_1000000, li_1103515245, neg_nI, nltT, nltF, neqT, neqF, mlt_n, nlt_m, meq_n, neq_m, meq_mT, meq_mF, mlt_mT, mlt_mF, nI_cl, gd_in, gd_T, Option.bind_some, pI_ne, pI_eq, pI_2, pL_1, pL_ne, pL_eq, pL_22, upEq, upN, aN_at, aN_up, nU_e, nU_n, aAdd_n, aAdd_nm, aSub_p, aSub_n, aSub_mn, aSub_mm, aMul_n, aDiv_n, aRem_n, eq_self_iff_true, hv, a1, a2]
theorem L_14 {xs : Nat → Int32} {L i B : Nat} {s : SS} (hB : B < 1073740000) (hL : L ≤ 3072) (h : i + 6 ≤ L) (hI : Inv B s) (hv : aAnd (xs i) (nI 63) = nI 14) : ∃ s2, Inv (B + 144) s2 ∧ ∀ n, F_L_law_18 xs L (n + 1) (nI i) s = F_L_law_18 xs L n (nI (i + 6)) s2 := by
  obtain ⟨r, s1, s2, a1, a2, a3⟩ := o_walk hI (xs (i + 1)) (xs (i + 2)) (xs (i + 3))
  refine ⟨s2, a3, fun n => ?_⟩
  rw [F_L_law_18]
  have e : Int32.ofNat L = nI L := rfl
  rw [e]
  simp (disch := omega) only [↓reduceIte, li_0, li_1, li_2, li_3, li_4, li_5, li_6, li_7, li_8, li_9, li_10, li_11, li_12, li_13, li_14, li_15, li_16, li_17, li_18, li_19, li_20, li_21, li_22, li_23, li_24, li_25, li_26, li_27, li_28, li_29, li_30, li_31, li_32, li_33, li_34, li_35, li_36, li_37, li_38, li_39, li_40, li_41, li_42, li_43, li_44, li_45, li_46, li_47, li_48, li_49, li_50, li_51, li_52, li_53, li_54, li_55, li_56, li_57, li_58, li_59, li_60, li_61, li_62, li_63, li_70, li_80, li_81, li_95, li_98, li_99, li_100, li_101, li_102, li_103, li_104, li_105, li_106, li_107, li_108, li_109, li_110, li_111, li_112, li_120, li_122, li_124, li_126, li_130, li_168, li_175, li_200, li_255, li_260, li_360, li_1440, li_12345, li_1000000, li_1103515245, neg_nI, nltT, nltF, neqT, neqF, mlt_n, nlt_m, meq_n, neq_m, meq_mT, meq_mF, mlt_mT, mlt_mF, nI_cl, gd_in, gd_T, Option.bind_some, pI_ne, pI_eq, pI_2, pL_1, pL_ne, pL_eq, pL_22, upEq, upN, aN_at, aN_up, nU_e, nU_n, aAdd_n, aAdd_nm, aSub_p, aSub_n, aSub_mn, aSub_mm, aMul_n, aDiv_n, aRem_n, eq_self_iff_true, hv, a1, a2]
theorem L_15 {xs : Nat → Int32} {L i B : Nat} {s : SS} (hB : B < 1073740000) (hL : L ≤ 3072) (h : i + 6 ≤ L) (hI : Inv B s) (hv : aAnd (xs i) (nI 63) = nI 15) : ∃ s2, Inv (B + 144) s2 ∧ ∀ n, F_L_law_18 xs L (n + 1) (nI i) s = F_L_law_18 xs L n (nI (i + 6)) s2 := by
  obtain ⟨r, s1, s2, a1, a2, a3⟩ := o_chance hB hI (xs (i + 1)) (xs (i + 2)) (xs (i + 3))
  refine ⟨s2, a3, fun n => ?_⟩
  rw [F_L_law_18]
  have e : Int32.ofNat L = nI L := rfl
  rw [e]
  simp (disch := omega) only [↓reduceIte, li_0, li_1, li_2, li_3, li_4, li_5, li_6, li_7, li_8, li_9, li_10, li_11, li_12, li_13, li_14, li_15, li_16, li_17, li_18, li_19, li_20, li_21, li_22, li_23, li_24, li_25, li_26, li_27, li_28, li_29, li_30, li_31, li_32, li_33, li_34, li_35, li_36, li_37, li_38, li_39, li_40, li_41, li_42, li_43, li_44, li_45, li_46, li_47, li_48, li_49, li_50, li_51, li_52, li_53, li_54, li_55, li_56, li_57, li_58, li_59, li_60, li_61, li_62, li_63, li_70, li_80, li_81, li_95, li_98, li_99, li_100, li_101, li_102, li_103, li_104, li_105, li_106, li_107, li_108, li_109, li_110, li_111, li_112, li_120, li_122, li_124, li_126, li_130, li_168, li_175, li_200, li_255, li_260, li_360, li_1440, li_12345, li_1000000, li_1103515245, neg_nI, nltT, nltF, neqT, neqF, mlt_n, nlt_m, meq_n, neq_m, meq_mT, meq_mF, mlt_mT, mlt_mF, nI_cl, gd_in, gd_T, Option.bind_some, pI_ne, pI_eq, pI_2, pL_1, pL_ne, pL_eq, pL_22, upEq, upN, aN_at, aN_up, nU_e, nU_n, aAdd_n, aAdd_nm, aSub_p, aSub_n, aSub_mn, aSub_mm, aMul_n, aDiv_n, aRem_n, eq_self_iff_true, hv, a1, a2, lcmp0]
theorem L_16 {xs : Nat → Int32} {L i B : Nat} {s : SS} (hB : B < 1073740000) (hL : L ≤ 3072) (h : i + 6 ≤ L) (hI : Inv B s) (hv : aAnd (xs i) (nI 63) = nI 16) : ∃ s2, Inv (B + 144) s2 ∧ ∀ n, F_L_law_18 xs L (n + 1) (nI i) s = F_L_law_18 xs L n (nI (i + 6)) s2 := by
  obtain ⟨r, s1, s2, a1, a2, a3⟩ := o_mean hB hI (xs (i + 1)) (xs (i + 2)) (xs (i + 3))
  refine ⟨s2, a3, fun n => ?_⟩
  rw [F_L_law_18]
  have e : Int32.ofNat L = nI L := rfl
  rw [e]
  simp (disch := omega) only [↓reduceIte, li_0, li_1, li_2, li_3, li_4, li_5, li_6, li_7, li_8, li_9, li_10, li_11, li_12, li_13, li_14, li_15, li_16, li_17, li_18, li_19, li_20, li_21, li_22, li_23, li_24, li_25, li_26, li_27, li_28, li_29, li_30, li_31, li_32, li_33, li_34, li_35, li_36, li_37, li_38, li_39, li_40, li_41, li_42, li_43, li_44, li_45, li_46, li_47, li_48, li_49, li_50, li_51, li_52, li_53, li_54, li_55, li_56, li_57, li_58, li_59, li_60, li_61, li_62, li_63, li_70, li_80, li_81, li_95, li_98, li_99, li_100, li_101, li_102, li_103, li_104, li_105, li_106, li_107, li_108, li_109, li_110, li_111, li_112, li_120, li_122, li_124, li_126, li_130, li_168, li_175, li_200, li_255, li_260, li_360, li_1440, li_12345, li_1000000, li_1103515245, neg_nI, nltT, nltF, neqT, neqF, mlt_n, nlt_m, meq_n, neq_m, meq_mT, meq_mF, mlt_mT, mlt_mF, nI_cl, gd_in, gd_T, Option.bind_some, pI_ne, pI_eq, pI_2, pL_1, pL_ne, pL_eq, pL_22, upEq, upN, aN_at, aN_up, nU_e, nU_n, aAdd_n, aAdd_nm, aSub_p, aSub_n, aSub_mn, aSub_mm, aMul_n, aDiv_n, aRem_n, eq_self_iff_true, hv, a1, a2, lcmp0]
theorem L_17 {xs : Nat → Int32} {L i B : Nat} {s : SS} (hB : B < 1073740000) (hL : L ≤ 3072) (h : i + 6 ≤ L) (hI : Inv B s) (hv : aAnd (xs i) (nI 63) = nI 17) : ∃ s2, Inv (B + 144) s2 ∧ ∀ n, F_L_law_18 xs L (n + 1) (nI i) s = F_L_law_18 xs L n (nI (i + 6)) s2 := by
  obtain ⟨r, s1, s2, a1, a2, a3⟩ := o_stand hB hI (xs (i + 1)) (xs (i + 2))
  refine ⟨s2, a3, fun n => ?_⟩
  rw [F_L_law_18]
  have e : Int32.ofNat L = nI L := rfl
  rw [e]
  simp (disch := omega) only [↓reduceIte, li_0, li_1, li_2, li_3, li_4, li_5, li_6, li_7, li_8, li_9, li_10, li_11, li_12, li_13, li_14, li_15, li_16, li_17, li_18, li_19, li_20, li_21, li_22, li_23, li_24, li_25, li_26, li_27, li_28, li_29, li_30, li_31, li_32, li_33, li_34, li_35, li_36, li_37, li_38, li_39, li_40, li_41, li_42, li_43, li_44, li_45, li_46, li_47, li_48, li_49, li_50, li_51, li_52, li_53, li_54, li_55, li_56, li_57, li_58, li_59, li_60, li_61, li_62, li_63, li_70, li_80, li_81, li_95, li_98, li_99, li_100, li_101, li_102, li_103, li_104, li_105, li_106, li_107, li_108, li_109, li_110, li_111, li_112, li_120, li_122, li_124, li_126, li_130, li_168, li_175, li_200, li_255, li_260, li_360, li_1440, li_12345, li_1000000, li_1103515245, neg_nI, nltT, nltF, neqT, neqF, mlt_n, nlt_m, meq_n, neq_m, meq_mT, meq_mF, mlt_mT, mlt_mF, nI_cl, gd_in, gd_T, Option.bind_some, pI_ne, pI_eq, pI_2, pL_1, pL_ne, pL_eq, pL_22, upEq, upN, aN_at, aN_up, nU_e, nU_n, aAdd_n, aAdd_nm, aSub_p, aSub_n, aSub_mn, aSub_mm, aMul_n, aDiv_n, aRem_n, eq_self_iff_true, hv, a1, a2]
theorem L_18 {xs : Nat → Int32} {L i B : Nat} {s : SS} (hB : B < 1073740000) (hL : L ≤ 3072) (h : i + 6 ≤ L) (hI : Inv B s) (hv : aAnd (xs i) (nI 63) = nI 18) : ∃ s2, Inv (B + 144) s2 ∧ ∀ n, F_L_law_18 xs L (n + 1) (nI i) s = F_L_law_18 xs L n (nI (i + 6)) s2 := by
  obtain ⟨r, s1, s2, a1, a2, a3⟩ := o_heavy hI (xs (i + 1)) (xs (i + 2))
  refine ⟨s2, a3, fun n => ?_⟩
  rw [F_L_law_18]
  have e : Int32.ofNat L = nI L := rfl
  rw [e]
  simp (disch := omega) only [↓reduceIte, li_0, li_1, li_2, li_3, li_4, li_5, li_6, li_7, li_8, li_9, li_10, li_11, li_12, li_13, li_14, li_15, li_16, li_17, li_18, li_19, li_20, li_21, li_22, li_23, li_24, li_25, li_26, li_27, li_28, li_29, li_30, li_31, li_32, li_33, li_34, li_35, li_36, li_37, li_38, li_39, li_40, li_41, li_42, li_43, li_44, li_45, li_46, li_47, li_48, li_49, li_50, li_51, li_52, li_53, li_54, li_55, li_56, li_57, li_58, li_59, li_60, li_61, li_62, li_63, li_70, li_80, li_81, li_95, li_98, li_99, li_100, li_101, li_102, li_103, li_104, li_105, li_106, li_107, li_108, li_109, li_110, li_111, li_112, li_120, li_122, li_124, li_126, li_130, li_168, li_175, li_200, li_255, li_260, li_360, li_1440, li_12345, li_1000000, li_1103515245, neg_nI, nltT, nltF, neqT, neqF, mlt_n, nlt_m, meq_n, neq_m, meq_mT, meq_mF, mlt_mT, mlt_mF, nI_cl, gd_in, gd_T, Option.bind_some, pI_ne, pI_eq, pI_2, pL_1, pL_ne, pL_eq, pL_22, upEq, upN, aN_at, aN_up, nU_e, nU_n, aAdd_n, aAdd_nm, aSub_p, aSub_n, aSub_mn, aSub_mm, aMul_n, aDiv_n, aRem_n, eq_self_iff_true, hv, a1, a2]
theorem L_19 {xs : Nat → Int32} {L i B : Nat} {s : SS} (hB : B < 1073740000) (hL : L ≤ 3072) (h : i + 6 ≤ L) (hI : Inv B s) (hv : aAnd (xs i) (nI 63) = nI 19) : ∃ s2, Inv (B + 144) s2 ∧ ∀ n, F_L_law_18 xs L (n + 1) (nI i) s = F_L_law_18 xs L n (nI (i + 6)) s2 := by
  obtain ⟨r, s1, s2, a1, a2, a3⟩ := o_ahead hB hI (xs (i + 1)) (xs (i + 2)) (xs (i + 3)) (xs (i + 4))
  refine ⟨s2, a3, fun n => ?_⟩
  rw [F_L_law_18]
  have e : Int32.ofNat L = nI L := rfl
  rw [e]
  simp (disch := omega) only [↓reduceIte, li_0, li_1, li_2, li_3, li_4, li_5, li_6, li_7, li_8, li_9, li_10, li_11, li_12, li_13, li_14, li_15, li_16, li_17, li_18, li_19, li_20, li_21, li_22, li_23, li_24, li_25, li_26, li_27, li_28, li_29, li_30, li_31, li_32, li_33, li_34, li_35, li_36, li_37, li_38, li_39, li_40, li_41, li_42, li_43, li_44, li_45, li_46, li_47, li_48, li_49, li_50, li_51, li_52, li_53, li_54, li_55, li_56, li_57, li_58, li_59, li_60, li_61, li_62, li_63, li_70, li_80, li_81, li_95, li_98, li_99, li_100, li_101, li_102, li_103, li_104, li_105, li_106, li_107, li_108, li_109, li_110, li_111, li_112, li_120, li_122, li_124, li_126, li_130, li_168, li_175, li_200, li_255, li_260, li_360, li_1440, li_12345, li_1000000, li_1103515245, neg_nI, nltT, nltF, neqT, neqF, mlt_n, nlt_m, meq_n, neq_m, meq_mT, meq_mF, mlt_mT, mlt_mF, nI_cl, gd_in, gd_T, Option.bind_some, pI_ne, pI_eq, pI_2, pL_1, pL_ne, pL_eq, pL_22, upEq, upN, aN_at, aN_up, nU_e, nU_n, aAdd_n, aAdd_nm, aSub_p, aSub_n, aSub_mn, aSub_mm, aMul_n, aDiv_n, aRem_n, eq_self_iff_true, hv, a1, a2]
theorem L_20 {xs : Nat → Int32} {L i B : Nat} {s : SS} (hB : B < 1073740000) (hL : L ≤ 3072) (h : i + 6 ≤ L) (hI : Inv B s) (hv : aAnd (xs i) (nI 63) = nI 20) : ∃ s2, Inv (B + 144) s2 ∧ ∀ n, F_L_law_18 xs L (n + 1) (nI i) s = F_L_law_18 xs L n (nI (i + 6)) s2 := by
  obtain ⟨r, s1, s2, a1, a2, a3⟩ := o_storm hB hI (xs (i + 1))
  refine ⟨s2, a3, fun n => ?_⟩
  rw [F_L_law_18]
  have e : Int32.ofNat L = nI L := rfl
  rw [e]
  simp (disch := omega) only [↓reduceIte, li_0, li_1, li_2, li_3, li_4, li_5, li_6, li_7, li_8, li_9, li_10, li_11, li_12, li_13, li_14, li_15, li_16, li_17, li_18, li_19, li_20, li_21, li_22, li_23, li_24, li_25, li_26, li_27, li_28, li_29, li_30, li_31, li_32, li_33, li_34, li_35, li_36, li_37, li_38, li_39, li_40, li_41, li_42, li_43, li_44, li_45, li_46, li_47, li_48, li_49, li_50, li_51, li_52, li_53, li_54, li_55, li_56, li_57, li_58, li_59, li_60, li_61, li_62, li_63, li_70, li_80, li_81, li_95, li_98, li_99, li_100, li_101, li_102, li_103, li_104, li_105, li_106, li_107, li_108, li_109, li_110, li_111, li_112, li_120, li_122, li_124, li_126, li_130, li_168, li_175, li_200, li_255, li_260, li_360, li_1440, li_12345, li_1000000, li_1103515245, neg_nI, nltT, nltF, neqT, neqF, mlt_n, nlt_m, meq_n, neq_m, meq_mT, meq_mF, mlt_mT, mlt_mF, nI_cl, gd_in, gd_T, Option.bind_some, pI_ne, pI_eq, pI_2, pL_1, pL_ne, pL_eq, pL_22, upEq, upN, aN_at, aN_up, nU_e, nU_n, aAdd_n, aAdd_nm, aSub_p, aSub_n, aSub_mn, aSub_mm, aMul_n, aDiv_n, aRem_n, eq_self_iff_true, hv, a1, a2]
theorem L_21 {xs : Nat → Int32} {L i B : Nat} {s : SS} (hB : B < 1073740000) (hL : L ≤ 3072) (h : i + 6 ≤ L) (hI : Inv B s) (hv : aAnd (xs i) (nI 63) = nI 21) : ∃ s2, Inv (B + 144) s2 ∧ ∀ n, F_L_law_18 xs L (n + 1) (nI i) s = F_L_law_18 xs L n (nI (i + 6)) s2 := by
  obtain ⟨r, s1, s2, a1, a2, a3⟩ := o_seeded hB hI (xs (i + 1)) (xs (i + 2))
  refine ⟨s2, a3, fun n => ?_⟩
  rw [F_L_law_18]
  have e : Int32.ofNat L = nI L := rfl
  rw [e]
  simp (disch := omega) only [↓reduceIte, li_0, li_1, li_2, li_3, li_4, li_5, li_6, li_7, li_8, li_9, li_10, li_11, li_12, li_13, li_14, li_15, li_16, li_17, li_18, li_19, li_20, li_21, li_22, li_23, li_24, li_25, li_26, li_27, li_28, li_29, li_30, li_31, li_32, li_33, li_34, li_35, li_36, li_37, li_38, li_39, li_40, li_41, li_42, li_43, li_44, li_45, li_46, li_47, li_48, li_49, li_50, li_51, li_52, li_53, li_54, li_55, li_56, li_57, li_58, li_59, li_60, li_61, li_62, li_63, li_70, li_80, li_81, li_95, li_98, li_99, li_100, li_101, li_102, li_103, li_104, li_105, li_106, li_107, li_108, li_109, li_110, li_111, li_112, li_120, li_122, li_124, li_126, li_130, li_168, li_175, li_200, li_255, li_260, li_360, li_1440, li_12345, li_1000000, li_1103515245, neg_nI, nltT, nltF, neqT, neqF, mlt_n, nlt_m, meq_n, neq_m, meq_mT, meq_mF, mlt_mT, mlt_mF, nI_cl, gd_in, gd_T, Option.bind_some, pI_ne, pI_eq, pI_2, pL_1, pL_ne, pL_eq, pL_22, upEq, upN, aN_at, aN_up, nU_e, nU_n, aAdd_n, aAdd_nm, aSub_p, aSub_n, aSub_mn, aSub_mm, aMul_n, aDiv_n, aRem_n, eq_self_iff_true, hv, a1, a2]
theorem L_22 {xs : Nat → Int32} {L i B : Nat} {s : SS} (hB : B < 1073740000) (hL : L ≤ 3072) (h : i + 6 ≤ L) (hI : Inv B s) (hv : aAnd (xs i) (nI 63) = nI 22) : ∃ s2, Inv (B + 144) s2 ∧ ∀ n, F_L_law_18 xs L (n + 1) (nI i) s = F_L_law_18 xs L n (nI (i + 6)) s2 := by
  obtain ⟨r, s1, s2, a1, a2, a3⟩ := o_image hI 
  refine ⟨s2, a3, fun n => ?_⟩
  rw [F_L_law_18]
  have e : Int32.ofNat L = nI L := rfl
  rw [e]
  simp (disch := omega) only [↓reduceIte, li_0, li_1, li_2, li_3, li_4, li_5, li_6, li_7, li_8, li_9, li_10, li_11, li_12, li_13, li_14, li_15, li_16, li_17, li_18, li_19, li_20, li_21, li_22, li_23, li_24, li_25, li_26, li_27, li_28, li_29, li_30, li_31, li_32, li_33, li_34, li_35, li_36, li_37, li_38, li_39, li_40, li_41, li_42, li_43, li_44, li_45, li_46, li_47, li_48, li_49, li_50, li_51, li_52, li_53, li_54, li_55, li_56, li_57, li_58, li_59, li_60, li_61, li_62, li_63, li_70, li_80, li_81, li_95, li_98, li_99, li_100, li_101, li_102, li_103, li_104, li_105, li_106, li_107, li_108, li_109, li_110, li_111, li_112, li_120, li_122, li_124, li_126, li_130, li_168, li_175, li_200, li_255, li_260, li_360, li_1440, li_12345, li_1000000, li_1103515245, neg_nI, nltT, nltF, neqT, neqF, mlt_n, nlt_m, meq_n, neq_m, meq_mT, meq_mF, mlt_mT, mlt_mF, nI_cl, gd_in, gd_T, Option.bind_some, pI_ne, pI_eq, pI_2, pL_1, pL_ne, pL_eq, pL_22, upEq, upN, aN_at, aN_up, nU_e, nU_n, aAdd_n, aAdd_nm, aSub_p, aSub_n, aSub_mn, aSub_mm, aMul_n, aDiv_n, aRem_n, eq_self_iff_true, hv, a1, a2]
theorem L_23 {xs : Nat → Int32} {L i B : Nat} {s : SS} (hB : B < 1073740000) (hL : L ≤ 3072) (h : i + 6 ≤ L) (hI : Inv B s) (hv : aAnd (xs i) (nI 63) = nI 23) : ∃ s2, Inv (B + 144) s2 ∧ ∀ n, F_L_law_18 xs L (n + 1) (nI i) s = F_L_law_18 xs L n (nI (i + 6)) s2 := by
  obtain ⟨r, s1, s2, a1, a2, a3⟩ := o_back hI 
  refine ⟨s2, a3, fun n => ?_⟩
  rw [F_L_law_18]
  have e : Int32.ofNat L = nI L := rfl
  rw [e]
  simp (disch := omega) only [↓reduceIte, li_0, li_1, li_2, li_3, li_4, li_5, li_6, li_7, li_8, li_9, li_10, li_11, li_12, li_13, li_14, li_15, li_16, li_17, li_18, li_19, li_20, li_21, li_22, li_23, li_24, li_25, li_26, li_27, li_28, li_29, li_30, li_31, li_32, li_33, li_34, li_35, li_36, li_37, li_38, li_39, li_40, li_41, li_42, li_43, li_44, li_45, li_46, li_47, li_48, li_49, li_50, li_51, li_52, li_53, li_54, li_55, li_56, li_57, li_58, li_59, li_60, li_61, li_62, li_63, li_70, li_80, li_81, li_95, li_98, li_99, li_100, li_101, li_102, li_103, li_104, li_105, li_106, li_107, li_108, li_109, li_110, li_111, li_112, li_120, li_122, li_124, li_126, li_130, li_168, li_175, li_200, li_255, li_260, li_360, li_1440, li_12345, li_1000000, li_1103515245, neg_nI, nltT, nltF, neqT, neqF, mlt_n, nlt_m, meq_n, neq_m, meq_mT, meq_mF, mlt_mT, mlt_mF, nI_cl, gd_in, gd_T, Option.bind_some, pI_ne, pI_eq, pI_2, pL_1, pL_ne, pL_eq, pL_22, upEq, upN, aN_at, aN_up, nU_e, nU_n, aAdd_n, aAdd_nm, aSub_p, aSub_n, aSub_mn, aSub_mm, aMul_n, aDiv_n, aRem_n, eq_self_iff_true, hv, a1, a2]
theorem L_24 {xs : Nat → Int32} {L i B : Nat} {s : SS} (hB : B < 1073740000) (hL : L ≤ 3072) (h : i + 6 ≤ L) (hI : Inv B s) (hv : aAnd (xs i) (nI 63) = nI 24) : ∃ s2, Inv (B + 144) s2 ∧ ∀ n, F_L_law_18 xs L (n + 1) (nI i) s = F_L_law_18 xs L n (nI (i + 6)) s2 := by
  obtain ⟨r, s1, s2, a1, a2, a3⟩ := o_undo hI 
  refine ⟨s2, a3, fun n => ?_⟩
  rw [F_L_law_18]
  have e : Int32.ofNat L = nI L := rfl
  rw [e]
  simp (disch := omega) only [↓reduceIte, li_0, li_1, li_2, li_3, li_4, li_5, li_6, li_7, li_8, li_9, li_10, li_11, li_12, li_13, li_14, li_15, li_16, li_17, li_18, li_19, li_20, li_21, li_22, li_23, li_24, li_25, li_26, li_27, li_28, li_29, li_30, li_31, li_32, li_33, li_34, li_35, li_36, li_37, li_38, li_39, li_40, li_41, li_42, li_43, li_44, li_45, li_46, li_47, li_48, li_49, li_50, li_51, li_52, li_53, li_54, li_55, li_56, li_57, li_58, li_59, li_60, li_61, li_62, li_63, li_70, li_80, li_81, li_95, li_98, li_99, li_100, li_101, li_102, li_103, li_104, li_105, li_106, li_107, li_108, li_109, li_110, li_111, li_112, li_120, li_122, li_124, li_126, li_130, li_168, li_175, li_200, li_255, li_260, li_360, li_1440, li_12345, li_1000000, li_1103515245, neg_nI, nltT, nltF, neqT, neqF, mlt_n, nlt_m, meq_n, neq_m, meq_mT, meq_mF, mlt_mT, mlt_mF, nI_cl, gd_in, gd_T, Option.bind_some, pI_ne, pI_eq, pI_2, pL_1, pL_ne, pL_eq, pL_22, upEq, upN, aN_at, aN_up, nU_e, nU_n, aAdd_n, aAdd_nm, aSub_p, aSub_n, aSub_mn, aSub_mm, aMul_n, aDiv_n, aRem_n, eq_self_iff_true, hv, a1, a2]
theorem L_25 {xs : Nat → Int32} {L i B : Nat} {s : SS} (hB : B < 1073740000) (hL : L ≤ 3072) (h : i + 6 ≤ L) (hI : Inv B s) (hv : aAnd (xs i) (nI 63) = nI 25) : ∃ s2, Inv (B + 144) s2 ∧ ∀ n, F_L_law_18 xs L (n + 1) (nI i) s = F_L_law_18 xs L n (nI (i + 6)) s2 := by
  obtain ⟨r, s1, s2, a1, a2, a3⟩ := o_redo hI 
  refine ⟨s2, a3, fun n => ?_⟩
  rw [F_L_law_18]
  have e : Int32.ofNat L = nI L := rfl
  rw [e]
  simp (disch := omega) only [↓reduceIte, li_0, li_1, li_2, li_3, li_4, li_5, li_6, li_7, li_8, li_9, li_10, li_11, li_12, li_13, li_14, li_15, li_16, li_17, li_18, li_19, li_20, li_21, li_22, li_23, li_24, li_25, li_26, li_27, li_28, li_29, li_30, li_31, li_32, li_33, li_34, li_35, li_36, li_37, li_38, li_39, li_40, li_41, li_42, li_43, li_44, li_45, li_46, li_47, li_48, li_49, li_50, li_51, li_52, li_53, li_54, li_55, li_56, li_57, li_58, li_59, li_60, li_61, li_62, li_63, li_70, li_80, li_81, li_95, li_98, li_99, li_100, li_101, li_102, li_103, li_104, li_105, li_106, li_107, li_108, li_109, li_110, li_111, li_112, li_120, li_122, li_124, li_126, li_130, li_168, li_175, li_200, li_255, li_260, li_360, li_1440, li_12345, li_1000000, li_1103515245, neg_nI, nltT, nltF, neqT, neqF, mlt_n, nlt_m, meq_n, neq_m, meq_mT, meq_mF, mlt_mT, mlt_mF, nI_cl, gd_in, gd_T, Option.bind_some, pI_ne, pI_eq, pI_2, pL_1, pL_ne, pL_eq, pL_22, upEq, upN, aN_at, aN_up, nU_e, nU_n, aAdd_n, aAdd_nm, aSub_p, aSub_n, aSub_mn, aSub_mm, aMul_n, aDiv_n, aRem_n, eq_self_iff_true, hv, a1, a2]
theorem L_26 {xs : Nat → Int32} {L i B : Nat} {s : SS} (hB : B < 1073740000) (hL : L ≤ 3072) (h : i + 6 ≤ L) (hI : Inv B s) (hv : aAnd (xs i) (nI 63) = nI 26) : ∃ s2, Inv (B + 144) s2 ∧ ∀ n, F_L_law_18 xs L (n + 1) (nI i) s = F_L_law_18 xs L n (nI (i + 6)) s2 := by
  obtain ⟨r, s1, s2, a1, a2, a3⟩ := o_body hI (xs (i + 1))
  refine ⟨s2, a3, fun n => ?_⟩
  rw [F_L_law_18]
  have e : Int32.ofNat L = nI L := rfl
  rw [e]
  simp (disch := omega) only [↓reduceIte, li_0, li_1, li_2, li_3, li_4, li_5, li_6, li_7, li_8, li_9, li_10, li_11, li_12, li_13, li_14, li_15, li_16, li_17, li_18, li_19, li_20, li_21, li_22, li_23, li_24, li_25, li_26, li_27, li_28, li_29, li_30, li_31, li_32, li_33, li_34, li_35, li_36, li_37, li_38, li_39, li_40, li_41, li_42, li_43, li_44, li_45, li_46, li_47, li_48, li_49, li_50, li_51, li_52, li_53, li_54, li_55, li_56, li_57, li_58, li_59, li_60, li_61, li_62, li_63, li_70, li_80, li_81, li_95, li_98, li_99, li_100, li_101, li_102, li_103, li_104, li_105, li_106, li_107, li_108, li_109, li_110, li_111, li_112, li_120, li_122, li_124, li_126, li_130, li_168, li_175, li_200, li_255, li_260, li_360, li_1440, li_12345, li_1000000, li_1103515245, neg_nI, nltT, nltF, neqT, neqF, mlt_n, nlt_m, meq_n, neq_m, meq_mT, meq_mF, mlt_mT, mlt_mF, nI_cl, gd_in, gd_T, Option.bind_some, pI_ne, pI_eq, pI_2, pL_1, pL_ne, pL_eq, pL_22, upEq, upN, aN_at, aN_up, nU_e, nU_n, aAdd_n, aAdd_nm, aSub_p, aSub_n, aSub_mn, aSub_mm, aMul_n, aDiv_n, aRem_n, eq_self_iff_true, hv, a1, a2]
theorem L_27 {xs : Nat → Int32} {L i B : Nat} {s : SS} (hB : B < 1073740000) (hL : L ≤ 3072) (h : i + 6 ≤ L) (hI : Inv B s) (hv : aAnd (xs i) (nI 63) = nI 27) : ∃ s2, Inv (B + 144) s2 ∧ ∀ n, F_L_law_18 xs L (n + 1) (nI i) s = F_L_law_18 xs L n (nI (i + 6)) s2 := by
  obtain ⟨r, s1, s2, a1, a2, a3⟩ := o_act hI (xs (i + 1)) (xs (i + 2)) (xs (i + 3))
  refine ⟨s2, a3, fun n => ?_⟩
  rw [F_L_law_18]
  have e : Int32.ofNat L = nI L := rfl
  rw [e]
  simp (disch := omega) only [↓reduceIte, li_0, li_1, li_2, li_3, li_4, li_5, li_6, li_7, li_8, li_9, li_10, li_11, li_12, li_13, li_14, li_15, li_16, li_17, li_18, li_19, li_20, li_21, li_22, li_23, li_24, li_25, li_26, li_27, li_28, li_29, li_30, li_31, li_32, li_33, li_34, li_35, li_36, li_37, li_38, li_39, li_40, li_41, li_42, li_43, li_44, li_45, li_46, li_47, li_48, li_49, li_50, li_51, li_52, li_53, li_54, li_55, li_56, li_57, li_58, li_59, li_60, li_61, li_62, li_63, li_70, li_80, li_81, li_95, li_98, li_99, li_100, li_101, li_102, li_103, li_104, li_105, li_106, li_107, li_108, li_109, li_110, li_111, li_112, li_120, li_122, li_124, li_126, li_130, li_168, li_175, li_200, li_255, li_260, li_360, li_1440, li_12345, li_1000000, li_1103515245, neg_nI, nltT, nltF, neqT, neqF, mlt_n, nlt_m, meq_n, neq_m, meq_mT, meq_mF, mlt_mT, mlt_mF, nI_cl, gd_in, gd_T, Option.bind_some, pI_ne, pI_eq, pI_2, pL_1, pL_ne, pL_eq, pL_22, upEq, upN, aN_at, aN_up, nU_e, nU_n, aAdd_n, aAdd_nm, aSub_p, aSub_n, aSub_mn, aSub_mm, aMul_n, aDiv_n, aRem_n, eq_self_iff_true, hv, a1, a2]
theorem L_28 {xs : Nat → Int32} {L i B : Nat} {s : SS} (hB : B < 1073740000) (hL : L ≤ 3072) (h : i + 6 ≤ L) (hI : Inv B s) (hv : aAnd (xs i) (nI 63) = nI 28) : ∃ s2, Inv (B + 144) s2 ∧ ∀ n, F_L_law_18 xs L (n + 1) (nI i) s = F_L_law_18 xs L n (nI (i + 6)) s2 := by
  obtain ⟨r, s1, s2, a1, a2, a3⟩ := o_trace hI (xs (i + 1))
  refine ⟨s2, a3, fun n => ?_⟩
  rw [F_L_law_18]
  have e : Int32.ofNat L = nI L := rfl
  rw [e]
  simp (disch := omega) only [↓reduceIte, li_0, li_1, li_2, li_3, li_4, li_5, li_6, li_7, li_8, li_9, li_10, li_11, li_12, li_13, li_14, li_15, li_16, li_17, li_18, li_19, li_20, li_21, li_22, li_23, li_24, li_25, li_26, li_27, li_28, li_29, li_30, li_31, li_32, li_33, li_34, li_35, li_36, li_37, li_38, li_39, li_40, li_41, li_42, li_43, li_44, li_45, li_46, li_47, li_48, li_49, li_50, li_51, li_52, li_53, li_54, li_55, li_56, li_57, li_58, li_59, li_60, li_61, li_62, li_63, li_70, li_80, li_81, li_95, li_98, li_99, li_100, li_101, li_102, li_103, li_104, li_105, li_106, li_107, li_108, li_109, li_110, li_111, li_112, li_120, li_122, li_124, li_126, li_130, li_168, li_175, li_200, li_255, li_260, li_360, li_1440, li_12345, li_1000000, li_1103515245, neg_nI, nltT, nltF, neqT, neqF, mlt_n, nlt_m, meq_n, neq_m, meq_mT, meq_mF, mlt_mT, mlt_mF, nI_cl, gd_in, gd_T, Option.bind_some, pI_ne, pI_eq, pI_2, pL_1, pL_ne, pL_eq, pL_22, upEq, upN, aN_at, aN_up, nU_e, nU_n, aAdd_n, aAdd_nm, aSub_p, aSub_n, aSub_mn, aSub_mm, aMul_n, aDiv_n, aRem_n, eq_self_iff_true, hv, a1, a2]
theorem L_29 {xs : Nat → Int32} {L i B : Nat} {s : SS} (hB : B < 1073740000) (hL : L ≤ 3072) (h : i + 6 ≤ L) (hI : Inv B s) (hv : aAnd (xs i) (nI 63) = nI 29) : ∃ s2, Inv (B + 144) s2 ∧ ∀ n, F_L_law_18 xs L (n + 1) (nI i) s = F_L_law_18 xs L n (nI (i + 6)) s2 := by
  obtain ⟨r, s1, s2, a1, a2, a3⟩ := o_keep hI (xs (i + 1)) (xs (i + 2))
  refine ⟨s2, a3, fun n => ?_⟩
  rw [F_L_law_18]
  have e : Int32.ofNat L = nI L := rfl
  rw [e]
  simp (disch := omega) only [↓reduceIte, li_0, li_1, li_2, li_3, li_4, li_5, li_6, li_7, li_8, li_9, li_10, li_11, li_12, li_13, li_14, li_15, li_16, li_17, li_18, li_19, li_20, li_21, li_22, li_23, li_24, li_25, li_26, li_27, li_28, li_29, li_30, li_31, li_32, li_33, li_34, li_35, li_36, li_37, li_38, li_39, li_40, li_41, li_42, li_43, li_44, li_45, li_46, li_47, li_48, li_49, li_50, li_51, li_52, li_53, li_54, li_55, li_56, li_57, li_58, li_59, li_60, li_61, li_62, li_63, li_70, li_80, li_81, li_95, li_98, li_99, li_100, li_101, li_102, li_103, li_104, li_105, li_106, li_107, li_108, li_109, li_110, li_111, li_112, li_120, li_122, li_124, li_126, li_130, li_168, li_175, li_200, li_255, li_260, li_360, li_1440, li_12345, li_1000000, li_1103515245, neg_nI, nltT, nltF, neqT, neqF, mlt_n, nlt_m, meq_n, neq_m, meq_mT, meq_mF, mlt_mT, mlt_mF, nI_cl, gd_in, gd_T, Option.bind_some, pI_ne, pI_eq, pI_2, pL_1, pL_ne, pL_eq, pL_22, upEq, upN, aN_at, aN_up, nU_e, nU_n, aAdd_n, aAdd_nm, aSub_p, aSub_n, aSub_mn, aSub_mm, aMul_n, aDiv_n, aRem_n, eq_self_iff_true, hv, a1, a2]
theorem L_30 {xs : Nat → Int32} {L i B : Nat} {s : SS} (hB : B < 1073740000) (hL : L ≤ 3072) (h : i + 6 ≤ L) (hI : Inv B s) (hv : aAnd (xs i) (nI 63) = nI 30) : ∃ s2, Inv (B + 144) s2 ∧ ∀ n, F_L_law_18 xs L (n + 1) (nI i) s = F_L_law_18 xs L n (nI (i + 6)) s2 := by
  obtain ⟨r, s1, s2, a1, a2, a3⟩ := o_row hI (xs (i + 1)) (xs (i + 2)) (xs (i + 3))
  refine ⟨s2, a3, fun n => ?_⟩
  rw [F_L_law_18]
  have e : Int32.ofNat L = nI L := rfl
  rw [e]
  simp (disch := omega) only [↓reduceIte, li_0, li_1, li_2, li_3, li_4, li_5, li_6, li_7, li_8, li_9, li_10, li_11, li_12, li_13, li_14, li_15, li_16, li_17, li_18, li_19, li_20, li_21, li_22, li_23, li_24, li_25, li_26, li_27, li_28, li_29, li_30, li_31, li_32, li_33, li_34, li_35, li_36, li_37, li_38, li_39, li_40, li_41, li_42, li_43, li_44, li_45, li_46, li_47, li_48, li_49, li_50, li_51, li_52, li_53, li_54, li_55, li_56, li_57, li_58, li_59, li_60, li_61, li_62, li_63, li_70, li_80, li_81, li_95, li_98, li_99, li_100, li_101, li_102, li_103, li_104, li_105, li_106, li_107, li_108, li_109, li_110, li_111, li_112, li_120, li_122, li_124, li_126, li_130, li_168, li_175, li_200, li_255, li_260, li_360, li_1440, li_12345, li_1000000, li_1103515245, neg_nI, nltT, nltF, neqT, neqF, mlt_n, nlt_m, meq_n, neq_m, meq_mT, meq_mF, mlt_mT, mlt_mF, nI_cl, gd_in, gd_T, Option.bind_some, pI_ne, pI_eq, pI_2, pL_1, pL_ne, pL_eq, pL_22, upEq, upN, aN_at, aN_up, nU_e, nU_n, aAdd_n, aAdd_nm, aSub_p, aSub_n, aSub_mn, aSub_mm, aMul_n, aDiv_n, aRem_n, eq_self_iff_true, hv, a1, a2]
theorem L_31 {xs : Nat → Int32} {L i B : Nat} {s : SS} (hB : B < 1073740000) (hL : L ≤ 3072) (h : i + 6 ≤ L) (hI : Inv B s) (hv : aAnd (xs i) (nI 63) = nI 31) : ∃ s2, Inv (B + 144) s2 ∧ ∀ n, F_L_law_18 xs L (n + 1) (nI i) s = F_L_law_18 xs L n (nI (i + 6)) s2 := by
  obtain ⟨r, s1, s2, a1, a2, a3⟩ := o_put hI (xs (i + 1)) (xs (i + 2)) (lOr (lShl (aI2L (xs (i + 3))) (nI 32)) (lAnd (aI2L (xs (i + 4))) (4294967295 : Int64)))
  refine ⟨s2, a3, fun n => ?_⟩
  rw [F_L_law_18]
  have e : Int32.ofNat L = nI L := rfl
  rw [e]
  simp (disch := omega) only [↓reduceIte, li_0, li_1, li_2, li_3, li_4, li_5, li_6, li_7, li_8, li_9, li_10, li_11, li_12, li_13, li_14, li_15, li_16, li_17, li_18, li_19, li_20, li_21, li_22, li_23, li_24, li_25, li_26, li_27, li_28, li_29, li_30, li_31, li_32, li_33, li_34, li_35, li_36, li_37, li_38, li_39, li_40, li_41, li_42, li_43, li_44, li_45, li_46, li_47, li_48, li_49, li_50, li_51, li_52, li_53, li_54, li_55, li_56, li_57, li_58, li_59, li_60, li_61, li_62, li_63, li_70, li_80, li_81, li_95, li_98, li_99, li_100, li_101, li_102, li_103, li_104, li_105, li_106, li_107, li_108, li_109, li_110, li_111, li_112, li_120, li_122, li_124, li_126, li_130, li_168, li_175, li_200, li_255, li_260, li_360, li_1440, li_12345, li_1000000, li_1103515245, neg_nI, nltT, nltF, neqT, neqF, mlt_n, nlt_m, meq_n, neq_m, meq_mT, meq_mF, mlt_mT, mlt_mF, nI_cl, gd_in, gd_T, Option.bind_some, pI_ne, pI_eq, pI_2, pL_1, pL_ne, pL_eq, pL_22, upEq, upN, aN_at, aN_up, nU_e, nU_n, aAdd_n, aAdd_nm, aSub_p, aSub_n, aSub_mn, aSub_mm, aMul_n, aDiv_n, aRem_n, eq_self_iff_true, hv, a1, a2]
theorem L_32 {xs : Nat → Int32} {L i B : Nat} {s : SS} (hB : B < 1073740000) (hL : L ≤ 3072) (h : i + 6 ≤ L) (hI : Inv B s) (hv : aAnd (xs i) (nI 63) = nI 32) : ∃ s2, Inv (B + 144) s2 ∧ ∀ n, F_L_law_18 xs L (n + 1) (nI i) s = F_L_law_18 xs L n (nI (i + 6)) s2 := by
  obtain ⟨r, s1, s2, a1, a2, a3⟩ := o_element hI (xs (i + 1)) (xs (i + 2))
  refine ⟨s2, a3, fun n => ?_⟩
  rw [F_L_law_18]
  have e : Int32.ofNat L = nI L := rfl
  rw [e]
  simp (disch := omega) only [↓reduceIte, li_0, li_1, li_2, li_3, li_4, li_5, li_6, li_7, li_8, li_9, li_10, li_11, li_12, li_13, li_14, li_15, li_16, li_17, li_18, li_19, li_20, li_21, li_22, li_23, li_24, li_25, li_26, li_27, li_28, li_29, li_30, li_31, li_32, li_33, li_34, li_35, li_36, li_37, li_38, li_39, li_40, li_41, li_42, li_43, li_44, li_45, li_46, li_47, li_48, li_49, li_50, li_51, li_52, li_53, li_54, li_55, li_56, li_57, li_58, li_59, li_60, li_61, li_62, li_63, li_70, li_80, li_81, li_95, li_98, li_99, li_100, li_101, li_102, li_103, li_104, li_105, li_106, li_107, li_108, li_109, li_110, li_111, li_112, li_120, li_122, li_124, li_126, li_130, li_168, li_175, li_200, li_255, li_260, li_360, li_1440, li_12345, li_1000000, li_1103515245, neg_nI, nltT, nltF, neqT, neqF, mlt_n, nlt_m, meq_n, neq_m, meq_mT, meq_mF, mlt_mT, mlt_mF, nI_cl, gd_in, gd_T, Option.bind_some, pI_ne, pI_eq, pI_2, pL_1, pL_ne, pL_eq, pL_22, upEq, upN, aN_at, aN_up, nU_e, nU_n, aAdd_n, aAdd_nm, aSub_p, aSub_n, aSub_mn, aSub_mm, aMul_n, aDiv_n, aRem_n, eq_self_iff_true, hv, a1, a2, lcmp0]
theorem L_33 {xs : Nat → Int32} {L i B : Nat} {s : SS} (hB : B < 1073740000) (hL : L ≤ 3072) (h : i + 6 ≤ L) (hI : Inv B s) (hv : aAnd (xs i) (nI 63) = nI 33) : ∃ s2, Inv (B + 144) s2 ∧ ∀ n, F_L_law_18 xs L (n + 1) (nI i) s = F_L_law_18 xs L n (nI (i + 6)) s2 := by
  obtain ⟨r, s1, s2, a1, a2, a3⟩ := o_shift hI (xs (i + 1)) (xs (i + 2)) (xs (i + 3)) (xs (i + 4)) (xs (i + 5))
  refine ⟨s2, a3, fun n => ?_⟩
  rw [F_L_law_18]
  have e : Int32.ofNat L = nI L := rfl
  rw [e]
  simp (disch := omega) only [↓reduceIte, li_0, li_1, li_2, li_3, li_4, li_5, li_6, li_7, li_8, li_9, li_10, li_11, li_12, li_13, li_14, li_15, li_16, li_17, li_18, li_19, li_20, li_21, li_22, li_23, li_24, li_25, li_26, li_27, li_28, li_29, li_30, li_31, li_32, li_33, li_34, li_35, li_36, li_37, li_38, li_39, li_40, li_41, li_42, li_43, li_44, li_45, li_46, li_47, li_48, li_49, li_50, li_51, li_52, li_53, li_54, li_55, li_56, li_57, li_58, li_59, li_60, li_61, li_62, li_63, li_70, li_80, li_81, li_95, li_98, li_99, li_100, li_101, li_102, li_103, li_104, li_105, li_106, li_107, li_108, li_109, li_110, li_111, li_112, li_120, li_122, li_124, li_126, li_130, li_168, li_175, li_200, li_255, li_260, li_360, li_1440, li_12345, li_1000000, li_1103515245, neg_nI, nltT, nltF, neqT, neqF, mlt_n, nlt_m, meq_n, neq_m, meq_mT, meq_mF, mlt_mT, mlt_mF, nI_cl, gd_in, gd_T, Option.bind_some, pI_ne, pI_eq, pI_2, pL_1, pL_ne, pL_eq, pL_22, upEq, upN, aN_at, aN_up, nU_e, nU_n, aAdd_n, aAdd_nm, aSub_p, aSub_n, aSub_mn, aSub_mm, aMul_n, aDiv_n, aRem_n, eq_self_iff_true, hv, a1, a2]
theorem L_34 {xs : Nat → Int32} {L i B : Nat} {s : SS} (hB : B < 1073740000) (hL : L ≤ 3072) (h : i + 6 ≤ L) (hI : Inv B s) (hv : aAnd (xs i) (nI 63) = nI 34) : ∃ s2, Inv (B + 144) s2 ∧ ∀ n, F_L_law_18 xs L (n + 1) (nI i) s = F_L_law_18 xs L n (nI (i + 6)) s2 := by
  obtain ⟨r, s1, s2, a1, a2, a3⟩ := o_taken hI (xs (i + 1)) (xs (i + 2))
  refine ⟨s2, a3, fun n => ?_⟩
  rw [F_L_law_18]
  have e : Int32.ofNat L = nI L := rfl
  rw [e]
  simp (disch := omega) only [↓reduceIte, li_0, li_1, li_2, li_3, li_4, li_5, li_6, li_7, li_8, li_9, li_10, li_11, li_12, li_13, li_14, li_15, li_16, li_17, li_18, li_19, li_20, li_21, li_22, li_23, li_24, li_25, li_26, li_27, li_28, li_29, li_30, li_31, li_32, li_33, li_34, li_35, li_36, li_37, li_38, li_39, li_40, li_41, li_42, li_43, li_44, li_45, li_46, li_47, li_48, li_49, li_50, li_51, li_52, li_53, li_54, li_55, li_56, li_57, li_58, li_59, li_60, li_61, li_62, li_63, li_70, li_80, li_81, li_95, li_98, li_99, li_100, li_101, li_102, li_103, li_104, li_105, li_106, li_107, li_108, li_109, li_110, li_111, li_112, li_120, li_122, li_124, li_126, li_130, li_168, li_175, li_200, li_255, li_260, li_360, li_1440, li_12345, li_1000000, li_1103515245, neg_nI, nltT, nltF, neqT, neqF, mlt_n, nlt_m, meq_n, neq_m, meq_mT, meq_mF, mlt_mT, mlt_mF, nI_cl, gd_in, gd_T, Option.bind_some, pI_ne, pI_eq, pI_2, pL_1, pL_ne, pL_eq, pL_22, upEq, upN, aN_at, aN_up, nU_e, nU_n, aAdd_n, aAdd_nm, aSub_p, aSub_n, aSub_mn, aSub_mm, aMul_n, aDiv_n, aRem_n, eq_self_iff_true, hv, a1, a2]
theorem L_35 {xs : Nat → Int32} {L i B : Nat} {s : SS} (hB : B < 1073740000) (hL : L ≤ 3072) (h : i + 6 ≤ L) (hI : Inv B s) (hv : aAnd (xs i) (nI 63) = nI 35) : ∃ s2, Inv (B + 144) s2 ∧ ∀ n, F_L_law_18 xs L (n + 1) (nI i) s = F_L_law_18 xs L n (nI (i + 6)) s2 := by
  obtain ⟨r, s1, s2, a1, a2, a3⟩ := o_count hI (xs (i + 1))
  refine ⟨s2, a3, fun n => ?_⟩
  rw [F_L_law_18]
  have e : Int32.ofNat L = nI L := rfl
  rw [e]
  simp (disch := omega) only [↓reduceIte, li_0, li_1, li_2, li_3, li_4, li_5, li_6, li_7, li_8, li_9, li_10, li_11, li_12, li_13, li_14, li_15, li_16, li_17, li_18, li_19, li_20, li_21, li_22, li_23, li_24, li_25, li_26, li_27, li_28, li_29, li_30, li_31, li_32, li_33, li_34, li_35, li_36, li_37, li_38, li_39, li_40, li_41, li_42, li_43, li_44, li_45, li_46, li_47, li_48, li_49, li_50, li_51, li_52, li_53, li_54, li_55, li_56, li_57, li_58, li_59, li_60, li_61, li_62, li_63, li_70, li_80, li_81, li_95, li_98, li_99, li_100, li_101, li_102, li_103, li_104, li_105, li_106, li_107, li_108, li_109, li_110, li_111, li_112, li_120, li_122, li_124, li_126, li_130, li_168, li_175, li_200, li_255, li_260, li_360, li_1440, li_12345, li_1000000, li_1103515245, neg_nI, nltT, nltF, neqT, neqF, mlt_n, nlt_m, meq_n, neq_m, meq_mT, meq_mF, mlt_mT, mlt_mF, nI_cl, gd_in, gd_T, Option.bind_some, pI_ne, pI_eq, pI_2, pL_1, pL_ne, pL_eq, pL_22, upEq, upN, aN_at, aN_up, nU_e, nU_n, aAdd_n, aAdd_nm, aSub_p, aSub_n, aSub_mn, aSub_mm, aMul_n, aDiv_n, aRem_n, eq_self_iff_true, hv, a1, a2]
theorem L_n {xs : Nat → Int32} {L i B j : Nat} {s : SS} (hL : L ≤ 3072) (h : i + 6 ≤ L) (hI : Inv B s) (hj : 36 ≤ j) (hj2 : j < 64) (hv : aAnd (xs i) (nI 63) = nI j) : ∃ s2, Inv (B + 144) s2 ∧ ∀ n, F_L_law_18 xs L (n + 1) (nI i) s = F_L_law_18 xs L n (nI (i + 6)) s2 := by
  refine ⟨s, Inv_mono hI (by omega), fun n => ?_⟩
  rw [F_L_law_18]
  have e : Int32.ofNat L = nI L := rfl
  rw [e]
  simp (disch := omega) only [↓reduceIte, li_0, li_1, li_2, li_3, li_4, li_5, li_6, li_7, li_8, li_9, li_10, li_11, li_12, li_13, li_14, li_15, li_16, li_17, li_18, li_19, li_20, li_21, li_22, li_23, li_24, li_25, li_26, li_27, li_28, li_29, li_30, li_31, li_32, li_33, li_34, li_35, li_36, li_37, li_38, li_39, li_40, li_41, li_42, li_43, li_44, li_45, li_46, li_47, li_48, li_49, li_50, li_51, li_52, li_53, li_54, li_55, li_56, li_57, li_58, li_59, li_60, li_61, li_62, li_63, li_70, li_80, li_81, li_95, li_98, li_99, li_100, li_101, li_102, li_103, li_104, li_105, li_106, li_107, li_108, li_109, li_110, li_111, li_112, li_120, li_122, li_124, li_126, li_130, li_168, li_175, li_200, li_255, li_260, li_360, li_1440, li_12345, li_1000000, li_1103515245, neg_nI, nltT, nltF, neqT, neqF, mlt_n, nlt_m, meq_n, neq_m, meq_mT, meq_mF, mlt_mT, mlt_mF, nI_cl, gd_in, gd_T, Option.bind_some, pI_ne, pI_eq, pI_2, pL_1, pL_ne, pL_eq, pL_22, upEq, upN, aN_at, aN_up, nU_e, nU_n, aAdd_n, aAdd_nm, aSub_p, aSub_n, aSub_mn, aSub_mm, aMul_n, aDiv_n, aRem_n, eq_self_iff_true, hv]
theorem L_step {xs : Nat → Int32} {L i B : Nat} {s : SS} (hB : B < 1073740000) (hL : L ≤ 3072) (h : i + 6 ≤ L) (hI : Inv B s) : ∃ s2, Inv (B + 144) s2 ∧ ∀ n, F_L_law_18 xs L (n + 1) (nI i) s = F_L_law_18 xs L n (nI (i + 6)) s2 := by
  obtain ⟨j, hj, hv⟩ := pk_andE (xs i) (m := 63) 6 rfl
  have hj : j < 64 := hj
  have hv : aAnd (xs i) (nI 63) = nI j := by rw [aAnd_eq]; exact hv
  rcases Nat.lt_or_ge j 36 with c | c
  · match j, c, hv with
    | 0, _, hv => exact L_0 hB hL h hI hv
    | 1, _, hv => exact L_1 hB hL h hI hv
    | 2, _, hv => exact L_2 hB hL h hI hv
    | 3, _, hv => exact L_3 hB hL h hI hv
    | 4, _, hv => exact L_4 hB hL h hI hv
    | 5, _, hv => exact L_5 hB hL h hI hv
    | 6, _, hv => exact L_6 hB hL h hI hv
    | 7, _, hv => exact L_7 hB hL h hI hv
    | 8, _, hv => exact L_8 hB hL h hI hv
    | 9, _, hv => exact L_9 hB hL h hI hv
    | 10, _, hv => exact L_10 hB hL h hI hv
    | 11, _, hv => exact L_11 hB hL h hI hv
    | 12, _, hv => exact L_12 hB hL h hI hv
    | 13, _, hv => exact L_13 hB hL h hI hv
    | 14, _, hv => exact L_14 hB hL h hI hv
    | 15, _, hv => exact L_15 hB hL h hI hv
    | 16, _, hv => exact L_16 hB hL h hI hv
    | 17, _, hv => exact L_17 hB hL h hI hv
    | 18, _, hv => exact L_18 hB hL h hI hv
    | 19, _, hv => exact L_19 hB hL h hI hv
    | 20, _, hv => exact L_20 hB hL h hI hv
    | 21, _, hv => exact L_21 hB hL h hI hv
    | 22, _, hv => exact L_22 hB hL h hI hv
    | 23, _, hv => exact L_23 hB hL h hI hv
    | 24, _, hv => exact L_24 hB hL h hI hv
    | 25, _, hv => exact L_25 hB hL h hI hv
    | 26, _, hv => exact L_26 hB hL h hI hv
    | 27, _, hv => exact L_27 hB hL h hI hv
    | 28, _, hv => exact L_28 hB hL h hI hv
    | 29, _, hv => exact L_29 hB hL h hI hv
    | 30, _, hv => exact L_30 hB hL h hI hv
    | 31, _, hv => exact L_31 hB hL h hI hv
    | 32, _, hv => exact L_32 hB hL h hI hv
    | 33, _, hv => exact L_33 hB hL h hI hv
    | 34, _, hv => exact L_34 hB hL h hI hv
    | 35, _, hv => exact L_35 hB hL h hI hv
    | k + 36, c, _ => exact absurd c (by omega)
  · exact L_n hL h hI c hj hv
theorem L_loop {xs : Nat → Int32} {L : Nat} (hL : L ≤ 3072) : ∀ m i B (s : SS), L < i + 6 * m + 6 → i ≤ 4000 → B + 144 * m < 1073740000 → Inv B s → ∃ n s', F_L_law_18 xs L n (nI i) s = some (nI 1, s') := by
  intro m
  induction m with
  | zero => intro i B s h hi _ _; exact ⟨1, s, L_end hL (by omega) hi⟩
  | succ m ih =>
    intro i B s h hi hB hI
    rcases Nat.lt_or_ge L (i + 6) with c | c
    · exact ⟨1, s, L_end hL c hi⟩
    · obtain ⟨s2, a1, a2⟩ := L_step (xs := xs) (i := i) (by omega) hL c hI
      obtain ⟨n, s', b⟩ := ih (i + 6) (B + 144) s2 (by omega) (by omega) (by omega) a1
      exact ⟨n + 1, s', by rw [a2 n]; exact b⟩
theorem I0_z {a k : Nat} (h : a ≠ 5 ∧ a ≠ 75 ∧ a ≠ 59 ∧ a ≠ 109 ∧ ¬ ((a = 13 ∨ a = 20) ∧ k = 6)) : I0 a k = nI 0 := by
  have nb : ∀ x y : Nat, x ≠ y → Nat.beq x y = false := fun x y e => by
    cases hb : Nat.beq x y
    · rfl
    · exact absurd (Nat.eq_of_beq_eq_true hb) e
  unfold I0
  rw [nb a 5 h.1, nb a 75 h.2.1, nb a 59 h.2.2.1, nb a 109 h.2.2.2.1]
  simp only [Bool.or_self, cond_false]
  by_cases c : a = 13 ∨ a = 20
  · have : k ≠ 6 := fun e => h.2.2.2.2 ⟨c, e⟩
    rw [nb k 6 this, Bool.and_false]
    rfl
  · rw [nb a 13 (fun e => c (Or.inl e)), nb a 20 (fun e => c (Or.inr e))]
    rfl
theorem I0_a {a : Nat} (h : a ≠ 5 ∧ a ≠ 75 ∧ a ≠ 59 ∧ a ≠ 109 ∧ a ≠ 13 ∧ a ≠ 20) : I0 a = aN (fun _ => 0) := by
  funext k
  rw [I0_z ⟨h.1, h.2.1, h.2.2.1, h.2.2.2.1, by omega⟩]
  rfl
theorem Inv_0 : Inv 0 sE := by
  have z : ∀ a k : Nat, (a ≠ 5 ∧ a ≠ 75 ∧ a ≠ 59 ∧ a ≠ 109 ∧ ¬ ((a = 13 ∨ a = 20) ∧ k = 6)) → sE.1 a k = nI 0 := fun a k h => I0_z h
  have y : ∀ a : Nat, (a ≠ 5 ∧ a ≠ 75 ∧ a ≠ 59 ∧ a ≠ 109 ∧ a ≠ 13 ∧ a ≠ 20) → sE.1 a = aN (fun _ => 0) := fun a h => I0_a h
  have e5 : sE.1 5 = aN (fun _ => 3) := rfl
  have e75 : sE.1 75 = aN (fun _ => 3) := rfl
  have lC : LawC sE none := ⟨Or.inl rfl, by show sE.1 13 7 = nI 0; exact z 13 7 (by omega)⟩
  have lM : LawM sE none := by show sE.1 74 35 = nI 0; exact z 74 35 (by omega)
  have dz : ∀ d, d = 30 ∨ d = 35 ∨ d = 40 ∨ d = 44 → DZ d sE := fun d h => ⟨fun k _ => z _ _ (by omega), fun k _ => z _ _ (by omega), fun k _ => z _ _ (by omega)⟩
  have w3 : ∀ k : Nat, (fun _ => 3 : Nat → Nat) k ≤ 9 := fun k => by show 3 ≤ 9; omega
  have ok : WOK (0, 0, fun _ => 0, fun _ => 0, fun _ => 0, fun _ => 3, 0, none) := ⟨Nat.zero_le _, Nat.zero_le _, fun _ => Nat.zero_le _, fun _ => Nat.zero_le _, fun _ => Nat.zero_le _, w3, Nat.zero_le _, fun ev h => by cases h⟩
  have hC : CT sE (0, 0, fun _ => 0, fun _ => 0, fun _ => 0, fun _ => 3, 0, none) (fun _ => 0) (fun _ => 0, fun _ => 0) 0 := ⟨⟨z _ _ (by omega), z _ _ (by omega), y _ (by omega), y _ (by omega), y _ (by omega), e5, z _ _ (by omega), lC⟩, y _ (by omega), y _ (by omega), y _ (by omega), z _ _ (by omega), dz _ (by omega), dz _ (by omega), dz _ (by omega), dz _ (by omega)⟩
  have hM : MT sE (0, 0, fun _ => 0, fun _ => 0, fun _ => 0, fun _ => 3, 0, none) (fun _ => 0) (fun _ => 0, fun _ => 0) 0 := ⟨⟨z _ _ (by omega), z _ _ (by omega), y _ (by omega), y _ (by omega), y _ (by omega), e75, z _ _ (by omega), lM⟩, y _ (by omega), y _ (by omega), y _ (by omega), z _ _ (by omega), ⟨fun k _ => z _ _ (by omega), fun k _ => z _ _ (by omega), fun k _ => z _ _ (by omega)⟩⟩
  have hJC : JC sE (fun _ _ => false) := ⟨fun _ => 0, y _ (by omega), fun _ => Nat.zero_lt_succ _, fun a b _ _ => Nat.zero_testBit b⟩
  have hJM : JM sE 0 (fun _ _ => false) := ⟨fun _ => 0, fun _ => 0, z _ _ (by omega), by omega, y _ (by omega), y _ (by omega), fun _ => ⟨Nat.zero_lt_succ _, Nat.zero_lt_succ _⟩, fun _ _ _ _ => rfl⟩
  have h1 : I1 sE (0, 0, fun _ => 0, fun _ => 0, fun _ => 0, fun _ => 3, 0, none) (fun _ => 0) (fun _ => 0, fun _ => 0) 0 0 (fun _ _ => false) 0 := ⟨hC, hM, hJC, hJM, z _ _ (by omega), ok, rfl, ⟨fun k h => absurd h (Nat.not_lt_zero k), fun _ _ => rfl⟩, ⟨fun _ => Nat.zero_le _, fun _ _ => rfl, fun _ => Nat.le_refl 0, fun _ _ => rfl⟩, by omega⟩
  have h2 : I2 sE (fun _ => nI 0) := by
    refine ⟨y _ (by omega), ?_, fun p => of_eq_false (neq_m (by omega) (by omega) (by omega))⟩
    rw [y 84 (by omega)]
    funext p
    show nI 0 = if nI 0 = mI 5 then mI 3 else nI 0
    rw [if_neg (of_eq_false (neq_m (by omega) (by omega) (by omega)))]
  have h3 : I3 sE 0 (fun _ => 0) := by
    refine ⟨z _ _ (by omega), y _ (by omega), z _ _ (by omega), ?_, by omega, fun _ => Nat.zero_le _⟩
    rw [y 89 (by omega)]
    funext k
    show nI 0 = aB (nI 0)
    rw [aB_eq]
    rfl
  have h4 : I4 sE (0, 0, fun _ => 0, fun _ => 0, fun _ => 0, fun _ => 3, 0, none) (0, 0, fun _ => 0, fun _ => 0, fun _ => 0, fun _ => 0) := ⟨z _ _ (by omega), z _ _ (by omega), y _ (by omega), y _ (by omega), y _ (by omega), y _ (by omega), z _ _ (by omega), z _ _ (by omega), y _ (by omega), y _ (by omega), y _ (by omega), y _ (by omega), Nat.le_refl _, Nat.zero_le _, fun k h => absurd h (Nat.not_lt_zero k)⟩
  have h5 : I5 sE (0, 0, fun _ => 0, fun _ => nI 0) := ⟨z _ _ (by omega), z _ _ (by omega), y _ (by omega), y _ (by omega), z _ _ (by omega), z _ _ (by omega), y _ (by omega), y _ (by omega), Nat.zero_le _, Nat.zero_le _, fun _ => Nat.zero_le _⟩
  have h6 : I6 sE 0 (fun _ => 0, fun _ => 0, fun _ => 0, fun _ _ => 0) := ⟨fun k => rfl, fun k => rfl, fun k h => absurd h (by show ¬ (0 = 1); omega), y _ (by omega), y _ (by omega), fun _ => Nat.zero_le _, fun k h => absurd h (by show ¬ (0 = 1); omega), fun _ => Nat.zero_le _, fun k i _ _ => ⟨rfl, rfl⟩⟩
  have h7 : I7 sE (0, 0, fun _ => 0, fun _ => 0, fun _ => 0, fun _ => 3, 0, none) (0, 0, 0, 0, fun _ => 0, fun _ => 0, fun _ => 0) 0 := ⟨z _ _ (by omega), z _ _ (by omega), z _ _ (by omega), z _ _ (by omega), y _ (by omega), y _ (by omega), y _ (by omega), z _ _ (by omega), z _ _ (by omega), z _ _ (by omega), z _ _ (by omega), y _ (by omega), y _ (by omega), y _ (by omega), Nat.zero_le _, Nat.le_refl _, Nat.le_refl _, Nat.zero_le _, fun k h => absurd h (Nat.not_lt_zero k), fun _ _ => rfl, fun _ => Nat.zero_le _, fun _ _ => rfl, fun _ => Nat.zero_le _, fun _ _ => rfl⟩
  exact ⟨_, _, _, _, _, _, _, _, _, _, _, _, _, h1, h2, h3, h4, h5, h6, h7, rfl⟩
theorem lw_pure {xs : Nat → Int32} {L : Nat} (hL : L ≤ 3072) : ∃ (n : Nat) (s' : SS), F_L_law_18 xs L n 0 sE = some ((1 : Int32), s') :=
  L_loop hL 600 0 0 sE (by omega) (by omega) (by omega) Inv_0
