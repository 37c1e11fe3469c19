/-! the class reads: levels, operands -/
theorem c_joins {tl : Nat} {tp : Nat → Nat} (hp : ∀ k, tp k ≤ 255) (h lev : Nat) (hl : lev ≤ 4) (s : SS) : f_X8_joins (if h < tl then nI (tp h) else mI 1) (nI lev) s = some (tB (joF lev (tkF tl tp h)), s) := by
  have hb := hp h
  unfold tkF
  by_cases c : h < tl
  · rw [if_pos c, if_pos c]
    generalize tp h = v at *
    unfold f_X8_joins joF
    have hq : lev = 0 ∨ lev = 1 ∨ lev = 2 ∨ lev = 3 ∨ lev = 4 := by omega
    by_cases e1 : v = 37
    · subst e1; rcases hq with rfl | rfl | rfl | rfl | rfl <;> simp (disch := omega) only [↓reduceIte, li_0, li_1, li_2, li_3, li_4, li_5, li_6, li_7, li_8, li_9, li_10, li_11, li_12, li_13, li_14, li_15, li_16, li_17, li_18, li_19, li_20, li_21, li_22, li_23, li_24, li_25, li_26, li_27, li_28, li_29, li_30, li_31, li_32, li_33, li_34, li_35, li_36, li_37, li_38, li_39, li_40, li_41, li_42, li_43, li_44, li_45, li_46, li_47, li_48, li_49, li_50, li_51, li_52, li_53, li_54, li_55, li_56, li_57, li_58, li_59, li_60, li_61, li_62, li_63, li_70, li_80, li_81, li_95, li_98, li_99, li_100, li_101, li_102, li_103, li_104, li_105, li_106, li_107, li_108, li_109, li_110, li_111, li_112, li_120, li_122, li_124, li_126, li_130, li_168, li_175, li_200, li_255, li_260, li_360, li_1440, li_12345, li_1000000, li_1103515245, neg_nI, nltT, nltF, neqT, neqF, mlt_n, nlt_m, meq_n, neq_m, meq_mT, meq_mF, mlt_mT, mlt_mF, nI_cl, gd_in, gd_T, Option.bind_some, pI_ne, pI_eq, pI_2, pL_1, pL_ne, pL_eq, pL_22, upEq, upN, aN_at, aN_up, nU_e, nU_n, aAdd_n, aAdd_nm, aSub_p, aSub_n, aSub_mn, aSub_mm, aMul_n, aDiv_n, aRem_n, eq_self_iff_true] <;> rfl
    by_cases e2 : v = 38
    · subst e2; rcases hq with rfl | rfl | rfl | rfl | rfl <;> simp (disch := omega) only [↓reduceIte, li_0, li_1, li_2, li_3, li_4, li_5, li_6, li_7, li_8, li_9, li_10, li_11, li_12, li_13, li_14, li_15, li_16, li_17, li_18, li_19, li_20, li_21, li_22, li_23, li_24, li_25, li_26, li_27, li_28, li_29, li_30, li_31, li_32, li_33, li_34, li_35, li_36, li_37, li_38, li_39, li_40, li_41, li_42, li_43, li_44, li_45, li_46, li_47, li_48, li_49, li_50, li_51, li_52, li_53, li_54, li_55, li_56, li_57, li_58, li_59, li_60, li_61, li_62, li_63, li_70, li_80, li_81, li_95, li_98, li_99, li_100, li_101, li_102, li_103, li_104, li_105, li_106, li_107, li_108, li_109, li_110, li_111, li_112, li_120, li_122, li_124, li_126, li_130, li_168, li_175, li_200, li_255, li_260, li_360, li_1440, li_12345, li_1000000, li_1103515245, neg_nI, nltT, nltF, neqT, neqF, mlt_n, nlt_m, meq_n, neq_m, meq_mT, meq_mF, mlt_mT, mlt_mF, nI_cl, gd_in, gd_T, Option.bind_some, pI_ne, pI_eq, pI_2, pL_1, pL_ne, pL_eq, pL_22, upEq, upN, aN_at, aN_up, nU_e, nU_n, aAdd_n, aAdd_nm, aSub_p, aSub_n, aSub_mn, aSub_mm, aMul_n, aDiv_n, aRem_n, eq_self_iff_true] <;> rfl
    by_cases e3 : v = 42
    · subst e3; rcases hq with rfl | rfl | rfl | rfl | rfl <;> simp (disch := omega) only [↓reduceIte, li_0, li_1, li_2, li_3, li_4, li_5, li_6, li_7, li_8, li_9, li_10, li_11, li_12, li_13, li_14, li_15, li_16, li_17, li_18, li_19, li_20, li_21, li_22, li_23, li_24, li_25, li_26, li_27, li_28, li_29, li_30, li_31, li_32, li_33, li_34, li_35, li_36, li_37, li_38, li_39, li_40, li_41, li_42, li_43, li_44, li_45, li_46, li_47, li_48, li_49, li_50, li_51, li_52, li_53, li_54, li_55, li_56, li_57, li_58, li_59, li_60, li_61, li_62, li_63, li_70, li_80, li_81, li_95, li_98, li_99, li_100, li_101, li_102, li_103, li_104, li_105, li_106, li_107, li_108, li_109, li_110, li_111, li_112, li_120, li_122, li_124, li_126, li_130, li_168, li_175, li_200, li_255, li_260, li_360, li_1440, li_12345, li_1000000, li_1103515245, neg_nI, nltT, nltF, neqT, neqF, mlt_n, nlt_m, meq_n, neq_m, meq_mT, meq_mF, mlt_mT, mlt_mF, nI_cl, gd_in, gd_T, Option.bind_some, pI_ne, pI_eq, pI_2, pL_1, pL_ne, pL_eq, pL_22, upEq, upN, aN_at, aN_up, nU_e, nU_n, aAdd_n, aAdd_nm, aSub_p, aSub_n, aSub_mn, aSub_mm, aMul_n, aDiv_n, aRem_n, eq_self_iff_true] <;> rfl
    by_cases e4 : v = 43
    · subst e4; rcases hq with rfl | rfl | rfl | rfl | rfl <;> simp (disch := omega) only [↓reduceIte, li_0, li_1, li_2, li_3, li_4, li_5, li_6, li_7, li_8, li_9, li_10, li_11, li_12, li_13, li_14, li_15, li_16, li_17, li_18, li_19, li_20, li_21, li_22, li_23, li_24, li_25, li_26, li_27, li_28, li_29, li_30, li_31, li_32, li_33, li_34, li_35, li_36, li_37, li_38, li_39, li_40, li_41, li_42, li_43, li_44, li_45, li_46, li_47, li_48, li_49, li_50, li_51, li_52, li_53, li_54, li_55, li_56, li_57, li_58, li_59, li_60, li_61, li_62, li_63, li_70, li_80, li_81, li_95, li_98, li_99, li_100, li_101, li_102, li_103, li_104, li_105, li_106, li_107, li_108, li_109, li_110, li_111, li_112, li_120, li_122, li_124, li_126, li_130, li_168, li_175, li_200, li_255, li_260, li_360, li_1440, li_12345, li_1000000, li_1103515245, neg_nI, nltT, nltF, neqT, neqF, mlt_n, nlt_m, meq_n, neq_m, meq_mT, meq_mF, mlt_mT, mlt_mF, nI_cl, gd_in, gd_T, Option.bind_some, pI_ne, pI_eq, pI_2, pL_1, pL_ne, pL_eq, pL_22, upEq, upN, aN_at, aN_up, nU_e, nU_n, aAdd_n, aAdd_nm, aSub_p, aSub_n, aSub_mn, aSub_mm, aMul_n, aDiv_n, aRem_n, eq_self_iff_true] <;> rfl
    by_cases e5 : v = 45
    · subst e5; rcases hq with rfl | rfl | rfl | rfl | rfl <;> simp (disch := omega) only [↓reduceIte, li_0, li_1, li_2, li_3, li_4, li_5, li_6, li_7, li_8, li_9, li_10, li_11, li_12, li_13, li_14, li_15, li_16, li_17, li_18, li_19, li_20, li_21, li_22, li_23, li_24, li_25, li_26, li_27, li_28, li_29, li_30, li_31, li_32, li_33, li_34, li_35, li_36, li_37, li_38, li_39, li_40, li_41, li_42, li_43, li_44, li_45, li_46, li_47, li_48, li_49, li_50, li_51, li_52, li_53, li_54, li_55, li_56, li_57, li_58, li_59, li_60, li_61, li_62, li_63, li_70, li_80, li_81, li_95, li_98, li_99, li_100, li_101, li_102, li_103, li_104, li_105, li_106, li_107, li_108, li_109, li_110, li_111, li_112, li_120, li_122, li_124, li_126, li_130, li_168, li_175, li_200, li_255, li_260, li_360, li_1440, li_12345, li_1000000, li_1103515245, neg_nI, nltT, nltF, neqT, neqF, mlt_n, nlt_m, meq_n, neq_m, meq_mT, meq_mF, mlt_mT, mlt_mF, nI_cl, gd_in, gd_T, Option.bind_some, pI_ne, pI_eq, pI_2, pL_1, pL_ne, pL_eq, pL_22, upEq, upN, aN_at, aN_up, nU_e, nU_n, aAdd_n, aAdd_nm, aSub_p, aSub_n, aSub_mn, aSub_mm, aMul_n, aDiv_n, aRem_n, eq_self_iff_true] <;> rfl
    by_cases e6 : v = 47
    · subst e6; rcases hq with rfl | rfl | rfl | rfl | rfl <;> simp (disch := omega) only [↓reduceIte, li_0, li_1, li_2, li_3, li_4, li_5, li_6, li_7, li_8, li_9, li_10, li_11, li_12, li_13, li_14, li_15, li_16, li_17, li_18, li_19, li_20, li_21, li_22, li_23, li_24, li_25, li_26, li_27, li_28, li_29, li_30, li_31, li_32, li_33, li_34, li_35, li_36, li_37, li_38, li_39, li_40, li_41, li_42, li_43, li_44, li_45, li_46, li_47, li_48, li_49, li_50, li_51, li_52, li_53, li_54, li_55, li_56, li_57, li_58, li_59, li_60, li_61, li_62, li_63, li_70, li_80, li_81, li_95, li_98, li_99, li_100, li_101, li_102, li_103, li_104, li_105, li_106, li_107, li_108, li_109, li_110, li_111, li_112, li_120, li_122, li_124, li_126, li_130, li_168, li_175, li_200, li_255, li_260, li_360, li_1440, li_12345, li_1000000, li_1103515245, neg_nI, nltT, nltF, neqT, neqF, mlt_n, nlt_m, meq_n, neq_m, meq_mT, meq_mF, mlt_mT, mlt_mF, nI_cl, gd_in, gd_T, Option.bind_some, pI_ne, pI_eq, pI_2, pL_1, pL_ne, pL_eq, pL_22, upEq, upN, aN_at, aN_up, nU_e, nU_n, aAdd_n, aAdd_nm, aSub_p, aSub_n, aSub_mn, aSub_mm, aMul_n, aDiv_n, aRem_n, eq_self_iff_true] <;> rfl
    by_cases e7 : v = 60
    · subst e7; rcases hq with rfl | rfl | rfl | rfl | rfl <;> simp (disch := omega) only [↓reduceIte, li_0, li_1, li_2, li_3, li_4, li_5, li_6, li_7, li_8, li_9, li_10, li_11, li_12, li_13, li_14, li_15, li_16, li_17, li_18, li_19, li_20, li_21, li_22, li_23, li_24, li_25, li_26, li_27, li_28, li_29, li_30, li_31, li_32, li_33, li_34, li_35, li_36, li_37, li_38, li_39, li_40, li_41, li_42, li_43, li_44, li_45, li_46, li_47, li_48, li_49, li_50, li_51, li_52, li_53, li_54, li_55, li_56, li_57, li_58, li_59, li_60, li_61, li_62, li_63, li_70, li_80, li_81, li_95, li_98, li_99, li_100, li_101, li_102, li_103, li_104, li_105, li_106, li_107, li_108, li_109, li_110, li_111, li_112, li_120, li_122, li_124, li_126, li_130, li_168, li_175, li_200, li_255, li_260, li_360, li_1440, li_12345, li_1000000, li_1103515245, neg_nI, nltT, nltF, neqT, neqF, mlt_n, nlt_m, meq_n, neq_m, meq_mT, meq_mF, mlt_mT, mlt_mF, nI_cl, gd_in, gd_T, Option.bind_some, pI_ne, pI_eq, pI_2, pL_1, pL_ne, pL_eq, pL_22, upEq, upN, aN_at, aN_up, nU_e, nU_n, aAdd_n, aAdd_nm, aSub_p, aSub_n, aSub_mn, aSub_mm, aMul_n, aDiv_n, aRem_n, eq_self_iff_true] <;> rfl
    by_cases e8 : v = 61
    · subst e8; rcases hq with rfl | rfl | rfl | rfl | rfl <;> simp (disch := omega) only [↓reduceIte, li_0, li_1, li_2, li_3, li_4, li_5, li_6, li_7, li_8, li_9, li_10, li_11, li_12, li_13, li_14, li_15, li_16, li_17, li_18, li_19, li_20, li_21, li_22, li_23, li_24, li_25, li_26, li_27, li_28, li_29, li_30, li_31, li_32, li_33, li_34, li_35, li_36, li_37, li_38, li_39, li_40, li_41, li_42, li_43, li_44, li_45, li_46, li_47, li_48, li_49, li_50, li_51, li_52, li_53, li_54, li_55, li_56, li_57, li_58, li_59, li_60, li_61, li_62, li_63, li_70, li_80, li_81, li_95, li_98, li_99, li_100, li_101, li_102, li_103, li_104, li_105, li_106, li_107, li_108, li_109, li_110, li_111, li_112, li_120, li_122, li_124, li_126, li_130, li_168, li_175, li_200, li_255, li_260, li_360, li_1440, li_12345, li_1000000, li_1103515245, neg_nI, nltT, nltF, neqT, neqF, mlt_n, nlt_m, meq_n, neq_m, meq_mT, meq_mF, mlt_mT, mlt_mF, nI_cl, gd_in, gd_T, Option.bind_some, pI_ne, pI_eq, pI_2, pL_1, pL_ne, pL_eq, pL_22, upEq, upN, aN_at, aN_up, nU_e, nU_n, aAdd_n, aAdd_nm, aSub_p, aSub_n, aSub_mn, aSub_mm, aMul_n, aDiv_n, aRem_n, eq_self_iff_true] <;> rfl
    by_cases e9 : v = 62
    · subst e9; rcases hq with rfl | rfl | rfl | rfl | rfl <;> simp (disch := omega) only [↓reduceIte, li_0, li_1, li_2, li_3, li_4, li_5, li_6, li_7, li_8, li_9, li_10, li_11, li_12, li_13, li_14, li_15, li_16, li_17, li_18, li_19, li_20, li_21, li_22, li_23, li_24, li_25, li_26, li_27, li_28, li_29, li_30, li_31, li_32, li_33, li_34, li_35, li_36, li_37, li_38, li_39, li_40, li_41, li_42, li_43, li_44, li_45, li_46, li_47, li_48, li_49, li_50, li_51, li_52, li_53, li_54, li_55, li_56, li_57, li_58, li_59, li_60, li_61, li_62, li_63, li_70, li_80, li_81, li_95, li_98, li_99, li_100, li_101, li_102, li_103, li_104, li_105, li_106, li_107, li_108, li_109, li_110, li_111, li_112, li_120, li_122, li_124, li_126, li_130, li_168, li_175, li_200, li_255, li_260, li_360, li_1440, li_12345, li_1000000, li_1103515245, neg_nI, nltT, nltF, neqT, neqF, mlt_n, nlt_m, meq_n, neq_m, meq_mT, meq_mF, mlt_mT, mlt_mF, nI_cl, gd_in, gd_T, Option.bind_some, pI_ne, pI_eq, pI_2, pL_1, pL_ne, pL_eq, pL_22, upEq, upN, aN_at, aN_up, nU_e, nU_n, aAdd_n, aAdd_nm, aSub_p, aSub_n, aSub_mn, aSub_mm, aMul_n, aDiv_n, aRem_n, eq_self_iff_true] <;> rfl
    by_cases e10 : v = 124
    · subst e10; rcases hq with rfl | rfl | rfl | rfl | rfl <;> simp (disch := omega) only [↓reduceIte, li_0, li_1, li_2, li_3, li_4, li_5, li_6, li_7, li_8, li_9, li_10, li_11, li_12, li_13, li_14, li_15, li_16, li_17, li_18, li_19, li_20, li_21, li_22, li_23, li_24, li_25, li_26, li_27, li_28, li_29, li_30, li_31, li_32, li_33, li_34, li_35, li_36, li_37, li_38, li_39, li_40, li_41, li_42, li_43, li_44, li_45, li_46, li_47, li_48, li_49, li_50, li_51, li_52, li_53, li_54, li_55, li_56, li_57, li_58, li_59, li_60, li_61, li_62, li_63, li_70, li_80, li_81, li_95, li_98, li_99, li_100, li_101, li_102, li_103, li_104, li_105, li_106, li_107, li_108, li_109, li_110, li_111, li_112, li_120, li_122, li_124, li_126, li_130, li_168, li_175, li_200, li_255, li_260, li_360, li_1440, li_12345, li_1000000, li_1103515245, neg_nI, nltT, nltF, neqT, neqF, mlt_n, nlt_m, meq_n, neq_m, meq_mT, meq_mF, mlt_mT, mlt_mF, nI_cl, gd_in, gd_T, Option.bind_some, pI_ne, pI_eq, pI_2, pL_1, pL_ne, pL_eq, pL_22, upEq, upN, aN_at, aN_up, nU_e, nU_n, aAdd_n, aAdd_nm, aSub_p, aSub_n, aSub_mn, aSub_mm, aMul_n, aDiv_n, aRem_n, eq_self_iff_true] <;> rfl
    simp (disch := omega) only [↓reduceIte, li_0, li_1, li_2, li_3, li_4, li_5, li_6, li_7, li_8, li_9, li_10, li_11, li_12, li_13, li_14, li_15, li_16, li_17, li_18, li_19, li_20, li_21, li_22, li_23, li_24, li_25, li_26, li_27, li_28, li_29, li_30, li_31, li_32, li_33, li_34, li_35, li_36, li_37, li_38, li_39, li_40, li_41, li_42, li_43, li_44, li_45, li_46, li_47, li_48, li_49, li_50, li_51, li_52, li_53, li_54, li_55, li_56, li_57, li_58, li_59, li_60, li_61, li_62, li_63, li_70, li_80, li_81, li_95, li_98, li_99, li_100, li_101, li_102, li_103, li_104, li_105, li_106, li_107, li_108, li_109, li_110, li_111, li_112, li_120, li_122, li_124, li_126, li_130, li_168, li_175, li_200, li_255, li_260, li_360, li_1440, li_12345, li_1000000, li_1103515245, neg_nI, nltT, nltF, neqT, neqF, mlt_n, nlt_m, meq_n, neq_m, meq_mT, meq_mF, mlt_mT, mlt_mF, nI_cl, gd_in, gd_T, Option.bind_some, pI_ne, pI_eq, pI_2, pL_1, pL_ne, pL_eq, pL_22, upEq, upN, aN_at, aN_up, nU_e, nU_n, aAdd_n, aAdd_nm, aSub_p, aSub_n, aSub_mn, aSub_mm, aMul_n, aDiv_n, aRem_n, eq_self_iff_true]
    rw [decide_eq_false e10, decide_eq_false e2, decide_eq_false (by omega : ¬ (v = 60 ∨ v = 61 ∨ v = 62)), decide_eq_false (by omega : ¬ (v = 43 ∨ v = 45)), decide_eq_false (by omega : ¬ (v = 42 ∨ v = 47 ∨ v = 37))]
    rcases hq with rfl | rfl | rfl | rfl | rfl <;> rfl
  · rw [if_neg c, if_neg c]
    unfold f_X8_joins
    simp (disch := omega) only [↓reduceIte, li_0, li_1, li_2, li_3, li_4, li_5, li_6, li_7, li_8, li_9, li_10, li_11, li_12, li_13, li_14, li_15, li_16, li_17, li_18, li_19, li_20, li_21, li_22, li_23, li_24, li_25, li_26, li_27, li_28, li_29, li_30, li_31, li_32, li_33, li_34, li_35, li_36, li_37, li_38, li_39, li_40, li_41, li_42, li_43, li_44, li_45, li_46, li_47, li_48, li_49, li_50, li_51, li_52, li_53, li_54, li_55, li_56, li_57, li_58, li_59, li_60, li_61, li_62, li_63, li_70, li_80, li_81, li_95, li_98, li_99, li_100, li_101, li_102, li_103, li_104, li_105, li_106, li_107, li_108, li_109, li_110, li_111, li_112, li_120, li_122, li_124, li_126, li_130, li_168, li_175, li_200, li_255, li_260, li_360, li_1440, li_12345, li_1000000, li_1103515245, neg_nI, nltT, nltF, neqT, neqF, mlt_n, nlt_m, meq_n, neq_m, meq_mT, meq_mF, mlt_mT, mlt_mF, nI_cl, gd_in, gd_T, Option.bind_some, pI_ne, pI_eq, pI_2, pL_1, pL_ne, pL_eq, pL_22, upEq, upN, aN_at, aN_up, nU_e, nU_n, aAdd_n, aAdd_nm, aSub_p, aSub_n, aSub_mn, aSub_mm, aMul_n, aDiv_n, aRem_n, eq_self_iff_true]
    unfold joF
    have hq : lev = 0 ∨ lev = 1 ∨ lev = 2 ∨ lev = 3 ∨ lev = 4 := by omega
    rcases hq with rfl | rfl | rfl | rfl | rfl <;> rfl
theorem jo_lt {tl : Nat} {tp : Nat → Nat} {h lev : Nat} (e : joF lev (tkF tl tp h) = true) : h < tl ∧ tkF tl tp h = tp h ∧ tp h < 128 ∧ tp h ≠ 48 := by
  unfold joF at e
  have e2 : tkF tl tp h ≠ 200 ∧ tkF tl tp h < 128 ∧ tkF tl tp h ≠ 48 := by
    split at e
    · have := of_decide_eq_true e; omega
    · split at e
      · have := of_decide_eq_true e; omega
      · split at e
        · have := of_decide_eq_true e; omega
        · split at e
          · have := of_decide_eq_true e; omega
          · have := of_decide_eq_true e; omega
  obtain ⟨a, b⟩ := tk_lt (rfl : tkF tl tp h = tkF tl tp h) e2.1
  exact ⟨a, b.symm, by omega, by omega⟩
theorem c_loop {d tl : Nat} {tp : Nat → Nat} {X : Nat → Rs} {o lev : Nat} (rc : Nat → Int32 → Int32 → SS → Option (Int32 × SS)) (hd : d = 13 ∨ d = 20) (ht : tl ≤ 120) (hp : ∀ k, tp k ≤ 255) (hl : lev ≤ 4) (hX : CI d tl tp (rc 0 (nI (lev + 1)) (nI o)) X) (most : Nat) (hm : most ≤ 120) : ∀ m k n (r : Rs) s N D x3, k + m = most → m < n → DS s d tl tp N D r.2.2.2 → (r.1 = true → ∃ x, x < N ∧ x3 = nI x ∧ D x = r.2.2.1) → (r.1 = false → x3 = mI 1) →
    ∃ s' N' D', DS s' d tl tp N' D' (lvL (tkF tl tp) lev X m r).2.2.2 ∧ N ≤ N' ∧ N' + r.2.2.2 ≤ N + (lvL (tkF tl tp) lev X m r).2.2.2 ∧ (∀ k, k < N → D' k = D k) ∧ FrP d s s' ∧ ((lvL (tkF tl tp) lev X m r).1 = true → ∃ x, x < N' ∧ F_X8_readJoined_36 rc n (nI lev) (nI o) x3 (nI most) (nI k) s = some (nI x, s') ∧ D' x = (lvL (tkF tl tp) lev X m r).2.2.1) ∧ ((lvL (tkF tl tp) lev X m r).1 = false → F_X8_readJoined_36 rc n (nI lev) (nI o) x3 (nI most) (nI k) s = some (mI 1, s')) := by
  intro m
  induction m with
  | zero =>
    intro k n r s N D x3 e hn x h1 h2
    obtain ⟨n, rfl⟩ : ∃ n', n = n' + 1 := ⟨n - 1, by omega⟩
    have N6 := x.2.2.2.2.2.2.1
    refine ⟨s, N, D, x, Nat.le_refl _, Nat.le_refl _, fun _ _ => rfl, FrP_rfl d s, fun hr => ?_, fun hr => ?_⟩
    · obtain ⟨y, y1, y2, y3⟩ := h1 hr
      refine ⟨y, y1, ?_, y3⟩
      rw [F_X8_readJoined_36, y2]
      simp (disch := omega) only [↓reduceIte, li_0, li_1, li_2, li_3, li_4, li_5, li_6, li_7, li_8, li_9, li_10, li_11, li_12, li_13, li_14, li_15, li_16, li_17, li_18, li_19, li_20, li_21, li_22, li_23, li_24, li_25, li_26, li_27, li_28, li_29, li_30, li_31, li_32, li_33, li_34, li_35, li_36, li_37, li_38, li_39, li_40, li_41, li_42, li_43, li_44, li_45, li_46, li_47, li_48, li_49, li_50, li_51, li_52, li_53, li_54, li_55, li_56, li_57, li_58, li_59, li_60, li_61, li_62, li_63, li_70, li_80, li_81, li_95, li_98, li_99, li_100, li_101, li_102, li_103, li_104, li_105, li_106, li_107, li_108, li_109, li_110, li_111, li_112, li_120, li_122, li_124, li_126, li_130, li_168, li_175, li_200, li_255, li_260, li_360, li_1440, li_12345, li_1000000, li_1103515245, neg_nI, nltT, nltF, neqT, neqF, mlt_n, nlt_m, meq_n, neq_m, meq_mT, meq_mF, mlt_mT, mlt_mF, nI_cl, gd_in, gd_T, Option.bind_some, pI_ne, pI_eq, pI_2, pL_1, pL_ne, pL_eq, pL_22, upEq, upN, aN_at, aN_up, nU_e, nU_n, aAdd_n, aAdd_nm, aSub_p, aSub_n, aSub_mn, aSub_mm, aMul_n, aDiv_n, aRem_n, eq_self_iff_true]
    · rw [F_X8_readJoined_36, h2 hr]
      simp (disch := omega) only [↓reduceIte, li_0, li_1, li_2, li_3, li_4, li_5, li_6, li_7, li_8, li_9, li_10, li_11, li_12, li_13, li_14, li_15, li_16, li_17, li_18, li_19, li_20, li_21, li_22, li_23, li_24, li_25, li_26, li_27, li_28, li_29, li_30, li_31, li_32, li_33, li_34, li_35, li_36, li_37, li_38, li_39, li_40, li_41, li_42, li_43, li_44, li_45, li_46, li_47, li_48, li_49, li_50, li_51, li_52, li_53, li_54, li_55, li_56, li_57, li_58, li_59, li_60, li_61, li_62, li_63, li_70, li_80, li_81, li_95, li_98, li_99, li_100, li_101, li_102, li_103, li_104, li_105, li_106, li_107, li_108, li_109, li_110, li_111, li_112, li_120, li_122, li_124, li_126, li_130, li_168, li_175, li_200, li_255, li_260, li_360, li_1440, li_12345, li_1000000, li_1103515245, neg_nI, nltT, nltF, neqT, neqF, mlt_n, nlt_m, meq_n, neq_m, meq_mT, meq_mF, mlt_mT, mlt_mF, nI_cl, gd_in, gd_T, Option.bind_some, pI_ne, pI_eq, pI_2, pL_1, pL_ne, pL_eq, pL_22, upEq, upN, aN_at, aN_up, nU_e, nU_n, aAdd_n, aAdd_nm, aSub_p, aSub_n, aSub_mn, aSub_mm, aMul_n, aDiv_n, aRem_n, eq_self_iff_true]
  | succ m ih =>
    intro k n r s N D x3 e hn x h1 h2
    obtain ⟨n, rfl⟩ : ∃ n', n = n' + 1 := ⟨n - 1, by omega⟩
    have td := x.1
    have N6 := x.2.2.2.2.2.2.1
    have h8 := x.2.2.2.2.2.2.2.1
    have hh := c_here x ht
    have hj := c_joins (tl := tl) hp r.2.2.2 lev hl s
    rw [lvL]
    by_cases c : r.1 = true ∧ joF lev (tkF tl tp r.2.2.2) = true
    · rw [if_pos c]
      obtain ⟨y, y1, y2, y3⟩ := h1 c.1
      obtain ⟨j1, j2, j3, j4⟩ := jo_lt c.2
      rw [c.2] at hj
      rw [if_pos j1] at hh hj
      obtain ⟨xa, xf⟩ := DS_at hd x (r.2.2.2 + 1) (by omega) (by omega)
      obtain ⟨s1, N1, D1, b1, b2, b3, b4, b5, b6, b7⟩ := hX _ N D (r.2.2.2 + 1) xa
      by_cases c2 : (X (r.2.2.2 + 1)).1 = true
      · rw [if_pos c2]
        obtain ⟨z, z1, z2, z3⟩ := b6 c2
        have td1 := b1.1
        have p8 := b1.2.2.2.2.2.2.2.1
        have pN := b1.2.2.2.2.2.2.1
        obtain ⟨s2, D2, d1, d2, d3, d4, d5⟩ := c_add (c := tp r.2.2.2) (a := y) (b := z) hd b1 ht (by omega) j4 j3 (by omega) z1
        have dn : D2 N1 = (fun v => jnF (nI (tkF tl tp r.2.2.2)) (r.2.2.1 v) ((X (r.2.2.2 + 1)).2.2.1 v)) := by
          rw [d4, b4 y y1, y3, z3, j2]
        obtain ⟨s3, N3, D3, e1, e2, e3, e4, e5, e6, e7⟩ := ih (k + 1) n (true, (X (r.2.2.2 + 1)).2.1, fun v => jnF (nI (tkF tl tp r.2.2.2)) (r.2.2.1 v) ((X (r.2.2.2 + 1)).2.2.1 v), (X (r.2.2.2 + 1)).2.2.2) s2 (N1 + 1) D2 (nI N1) (by omega) (by omega) d2 (fun _ => ⟨N1, by omega, rfl, dn⟩) (fun h => by cases h)
        have e3 : N3 + (X (r.2.2.2 + 1)).2.2.2 ≤ N1 + 1 + _ := e3
        have stp : F_X8_readJoined_36 rc (n + 1) (nI lev) (nI o) x3 (nI most) (nI k) s = F_X8_readJoined_36 rc n (nI lev) (nI o) (nI N1) (nI most) (nI (k + 1)) s2 := by
          rw [F_X8_readJoined_36, y2]
          simp (disch := omega) only [↓bE (hh), ↓bE (hj), ↓bE (z2), ↓reduceIte, li_0, li_1, li_2, li_3, li_4, li_5, li_6, li_7, li_8, li_9, li_10, li_11, li_12, li_13, li_14, li_15, li_16, li_17, li_18, li_19, li_20, li_21, li_22, li_23, li_24, li_25, li_26, li_27, li_28, li_29, li_30, li_31, li_32, li_33, li_34, li_35, li_36, li_37, li_38, li_39, li_40, li_41, li_42, li_43, li_44, li_45, li_46, li_47, li_48, li_49, li_50, li_51, li_52, li_53, li_54, li_55, li_56, li_57, li_58, li_59, li_60, li_61, li_62, li_63, li_70, li_80, li_81, li_95, li_98, li_99, li_100, li_101, li_102, li_103, li_104, li_105, li_106, li_107, li_108, li_109, li_110, li_111, li_112, li_120, li_122, li_124, li_126, li_130, li_168, li_175, li_200, li_255, li_260, li_360, li_1440, li_12345, li_1000000, li_1103515245, neg_nI, nltT, nltF, neqT, neqF, mlt_n, nlt_m, meq_n, neq_m, meq_mT, meq_mF, mlt_mT, mlt_mF, nI_cl, gd_in, gd_T, Option.bind_some, pI_ne, pI_eq, pI_2, pL_1, pL_ne, pL_eq, pL_22, upEq, upN, aN_at, aN_up, nU_e, nU_n, aAdd_n, aAdd_nm, aSub_p, aSub_n, aSub_mn, aSub_mm, aMul_n, aDiv_n, aRem_n, eq_self_iff_true, tB_T, x.2.1, z2, td1, gd_K, gd_B, d1]
        refine ⟨s3, N3, D3, e1, by omega, by omega, fun k' hk => by rw [e4 k' (by omega), d3 k' (by omega), b4 k' hk], FrP_tr xf (FrP_tr b5 (FrP_tr d5 e5)), fun hr => ?_, fun hr => ?_⟩
        · obtain ⟨w, w1, w2, w3⟩ := e6 hr
          exact ⟨w, w1, by rw [stp]; exact w2, w3⟩
        · rw [stp]; exact e7 hr
      · rw [if_neg c2]
        have c2 := Bool.eq_false_iff.mpr c2
        have z2 := b7 c2
        refine ⟨s1, N1, D1, b1, b2, by show N1 + r.2.2.2 ≤ N + (X (r.2.2.2 + 1)).2.2.2; omega, b4, FrP_tr xf b5, (fun hr => by cases hr), fun _ => ?_⟩
        rw [F_X8_readJoined_36, y2]
        simp (disch := omega) only [↓bE (hh), ↓bE (hj), ↓bE (z2), ↓reduceIte, li_0, li_1, li_2, li_3, li_4, li_5, li_6, li_7, li_8, li_9, li_10, li_11, li_12, li_13, li_14, li_15, li_16, li_17, li_18, li_19, li_20, li_21, li_22, li_23, li_24, li_25, li_26, li_27, li_28, li_29, li_30, li_31, li_32, li_33, li_34, li_35, li_36, li_37, li_38, li_39, li_40, li_41, li_42, li_43, li_44, li_45, li_46, li_47, li_48, li_49, li_50, li_51, li_52, li_53, li_54, li_55, li_56, li_57, li_58, li_59, li_60, li_61, li_62, li_63, li_70, li_80, li_81, li_95, li_98, li_99, li_100, li_101, li_102, li_103, li_104, li_105, li_106, li_107, li_108, li_109, li_110, li_111, li_112, li_120, li_122, li_124, li_126, li_130, li_168, li_175, li_200, li_255, li_260, li_360, li_1440, li_12345, li_1000000, li_1103515245, neg_nI, nltT, nltF, neqT, neqF, mlt_n, nlt_m, meq_n, neq_m, meq_mT, meq_mF, mlt_mT, mlt_mF, nI_cl, gd_in, gd_T, Option.bind_some, pI_ne, pI_eq, pI_2, pL_1, pL_ne, pL_eq, pL_22, upEq, upN, aN_at, aN_up, nU_e, nU_n, aAdd_n, aAdd_nm, aSub_p, aSub_n, aSub_mn, aSub_mm, aMul_n, aDiv_n, aRem_n, eq_self_iff_true, tB_T, x.2.1, z2]
        obtain ⟨n, rfl⟩ : ∃ n', n = n' + 1 := ⟨n - 1, by omega⟩
        rw [F_X8_readJoined_36]
        by_cases c3 : k + 1 < most
        · simp (disch := omega) only [↓reduceIte, li_0, li_1, li_2, li_3, li_4, li_5, li_6, li_7, li_8, li_9, li_10, li_11, li_12, li_13, li_14, li_15, li_16, li_17, li_18, li_19, li_20, li_21, li_22, li_23, li_24, li_25, li_26, li_27, li_28, li_29, li_30, li_31, li_32, li_33, li_34, li_35, li_36, li_37, li_38, li_39, li_40, li_41, li_42, li_43, li_44, li_45, li_46, li_47, li_48, li_49, li_50, li_51, li_52, li_53, li_54, li_55, li_56, li_57, li_58, li_59, li_60, li_61, li_62, li_63, li_70, li_80, li_81, li_95, li_98, li_99, li_100, li_101, li_102, li_103, li_104, li_105, li_106, li_107, li_108, li_109, li_110, li_111, li_112, li_120, li_122, li_124, li_126, li_130, li_168, li_175, li_200, li_255, li_260, li_360, li_1440, li_12345, li_1000000, li_1103515245, neg_nI, nltT, nltF, neqT, neqF, mlt_n, nlt_m, meq_n, neq_m, meq_mT, meq_mF, mlt_mT, mlt_mF, nI_cl, gd_in, gd_T, Option.bind_some, pI_ne, pI_eq, pI_2, pL_1, pL_ne, pL_eq, pL_22, upEq, upN, aN_at, aN_up, nU_e, nU_n, aAdd_n, aAdd_nm, aSub_p, aSub_n, aSub_mn, aSub_mm, aMul_n, aDiv_n, aRem_n, eq_self_iff_true]
        · simp (disch := omega) only [↓reduceIte, li_0, li_1, li_2, li_3, li_4, li_5, li_6, li_7, li_8, li_9, li_10, li_11, li_12, li_13, li_14, li_15, li_16, li_17, li_18, li_19, li_20, li_21, li_22, li_23, li_24, li_25, li_26, li_27, li_28, li_29, li_30, li_31, li_32, li_33, li_34, li_35, li_36, li_37, li_38, li_39, li_40, li_41, li_42, li_43, li_44, li_45, li_46, li_47, li_48, li_49, li_50, li_51, li_52, li_53, li_54, li_55, li_56, li_57, li_58, li_59, li_60, li_61, li_62, li_63, li_70, li_80, li_81, li_95, li_98, li_99, li_100, li_101, li_102, li_103, li_104, li_105, li_106, li_107, li_108, li_109, li_110, li_111, li_112, li_120, li_122, li_124, li_126, li_130, li_168, li_175, li_200, li_255, li_260, li_360, li_1440, li_12345, li_1000000, li_1103515245, neg_nI, nltT, nltF, neqT, neqF, mlt_n, nlt_m, meq_n, neq_m, meq_mT, meq_mF, mlt_mT, mlt_mF, nI_cl, gd_in, gd_T, Option.bind_some, pI_ne, pI_eq, pI_2, pL_1, pL_ne, pL_eq, pL_22, upEq, upN, aN_at, aN_up, nU_e, nU_n, aAdd_n, aAdd_nm, aSub_p, aSub_n, aSub_mn, aSub_mm, aMul_n, aDiv_n, aRem_n, eq_self_iff_true]
    · rw [if_neg c]
      refine ⟨s, N, D, x, Nat.le_refl _, Nat.le_refl _, fun _ _ => rfl, FrP_rfl d s, fun hr => ?_, fun hr => ?_⟩
      · obtain ⟨y, y1, y2, y3⟩ := h1 hr
        refine ⟨y, y1, ?_, y3⟩
        have c2 : joF lev (tkF tl tp r.2.2.2) = false := Bool.eq_false_iff.mpr (fun z => c ⟨hr, z⟩)
        rw [c2] at hj
        rw [F_X8_readJoined_36, y2]
        simp (disch := omega) only [↓bE (hh), ↓bE (hj), ↓reduceIte, li_0, li_1, li_2, li_3, li_4, li_5, li_6, li_7, li_8, li_9, li_10, li_11, li_12, li_13, li_14, li_15, li_16, li_17, li_18, li_19, li_20, li_21, li_22, li_23, li_24, li_25, li_26, li_27, li_28, li_29, li_30, li_31, li_32, li_33, li_34, li_35, li_36, li_37, li_38, li_39, li_40, li_41, li_42, li_43, li_44, li_45, li_46, li_47, li_48, li_49, li_50, li_51, li_52, li_53, li_54, li_55, li_56, li_57, li_58, li_59, li_60, li_61, li_62, li_63, li_70, li_80, li_81, li_95, li_98, li_99, li_100, li_101, li_102, li_103, li_104, li_105, li_106, li_107, li_108, li_109, li_110, li_111, li_112, li_120, li_122, li_124, li_126, li_130, li_168, li_175, li_200, li_255, li_260, li_360, li_1440, li_12345, li_1000000, li_1103515245, neg_nI, nltT, nltF, neqT, neqF, mlt_n, nlt_m, meq_n, neq_m, meq_mT, meq_mF, mlt_mT, mlt_mF, nI_cl, gd_in, gd_T, Option.bind_some, pI_ne, pI_eq, pI_2, pL_1, pL_ne, pL_eq, pL_22, upEq, upN, aN_at, aN_up, nU_e, nU_n, aAdd_n, aAdd_nm, aSub_p, aSub_n, aSub_mn, aSub_mm, aMul_n, aDiv_n, aRem_n, eq_self_iff_true, tB_F]
      · rw [F_X8_readJoined_36, h2 hr]
        simp (disch := omega) only [↓reduceIte, li_0, li_1, li_2, li_3, li_4, li_5, li_6, li_7, li_8, li_9, li_10, li_11, li_12, li_13, li_14, li_15, li_16, li_17, li_18, li_19, li_20, li_21, li_22, li_23, li_24, li_25, li_26, li_27, li_28, li_29, li_30, li_31, li_32, li_33, li_34, li_35, li_36, li_37, li_38, li_39, li_40, li_41, li_42, li_43, li_44, li_45, li_46, li_47, li_48, li_49, li_50, li_51, li_52, li_53, li_54, li_55, li_56, li_57, li_58, li_59, li_60, li_61, li_62, li_63, li_70, li_80, li_81, li_95, li_98, li_99, li_100, li_101, li_102, li_103, li_104, li_105, li_106, li_107, li_108, li_109, li_110, li_111, li_112, li_120, li_122, li_124, li_126, li_130, li_168, li_175, li_200, li_255, li_260, li_360, li_1440, li_12345, li_1000000, li_1103515245, neg_nI, nltT, nltF, neqT, neqF, mlt_n, nlt_m, meq_n, neq_m, meq_mT, meq_mF, mlt_mT, mlt_mF, nI_cl, gd_in, gd_T, Option.bind_some, pI_ne, pI_eq, pI_2, pL_1, pL_ne, pL_eq, pL_22, upEq, upN, aN_at, aN_up, nU_e, nU_n, aAdd_n, aAdd_nm, aSub_p, aSub_n, aSub_mn, aSub_mm, aMul_n, aDiv_n, aRem_n, eq_self_iff_true]
noncomputable def jvF (tk : Nat → Nat) (X : Nat → Rs) : Nat → Nat → Rs
  | 0 => X
  | j + 1 => lvS tk (4 - j) (jvF tk X j)
theorem g8_0 (n : Nat) (b0 b1 : Int32) (s : SS) : g_X8R (n + 1) 0 b0 b1 s = f_X8_readJoined (g_X8R n) b0 b1 s := rfl
theorem g8_1 (n : Nat) (b0 b1 : Int32) (s : SS) : g_X8R (n + 1) 1 b0 b1 s = f_X8_readOperand (g_X8R n) b0 s := rfl
theorem g8_2 (n : Nat) (b0 b1 : Int32) (s : SS) : g_X8R (n + 1) 2 b0 b1 s = f_X8_readOpened (g_X8R n) b0 b1 s := rfl
theorem c_joined2 {d tl : Nat} {tp : Nat → Nat} {X : Nat → Rs} {o n0 : Nat} (hd : d = 13 ∨ d = 20) (ht : tl ≤ 120) (hp : ∀ k, tp k ≤ 255) (hX : ∀ n, n0 ≤ n → CI d tl tp (g_X8R n 1 (nI o) (nI 0)) X) : ∀ j, j ≤ 5 → ∀ n, n0 + j + 1 ≤ n → CI d tl tp (g_X8R n 0 (nI (5 - j)) (nI o)) (jvF (tkF tl tp) X j) := by
  intro j
  induction j with
  | zero =>
    intro _ n hn s N D h x
    obtain ⟨n, rfl⟩ : ∃ n', n = n' + 1 := ⟨n - 1, by omega⟩
    obtain ⟨s', N', D', a1, a2, a3, a4, a5, a6, a7⟩ := hX n (by omega) s N D h x
    refine ⟨s', N', D', a1, a2, a3, a4, a5, fun hr => ?_, fun hr => ?_⟩
    · obtain ⟨y, y1, y2, y3⟩ := a6 hr
      refine ⟨y, y1, ?_, y3⟩
      rw [g8_0]
      unfold f_X8_readJoined
      simp (disch := omega) only [↓reduceIte, li_0, li_1, li_2, li_3, li_4, li_5, li_6, li_7, li_8, li_9, li_10, li_11, li_12, li_13, li_14, li_15, li_16, li_17, li_18, li_19, li_20, li_21, li_22, li_23, li_24, li_25, li_26, li_27, li_28, li_29, li_30, li_31, li_32, li_33, li_34, li_35, li_36, li_37, li_38, li_39, li_40, li_41, li_42, li_43, li_44, li_45, li_46, li_47, li_48, li_49, li_50, li_51, li_52, li_53, li_54, li_55, li_56, li_57, li_58, li_59, li_60, li_61, li_62, li_63, li_70, li_80, li_81, li_95, li_98, li_99, li_100, li_101, li_102, li_103, li_104, li_105, li_106, li_107, li_108, li_109, li_110, li_111, li_112, li_120, li_122, li_124, li_126, li_130, li_168, li_175, li_200, li_255, li_260, li_360, li_1440, li_12345, li_1000000, li_1103515245, neg_nI, nltT, nltF, neqT, neqF, mlt_n, nlt_m, meq_n, neq_m, meq_mT, meq_mF, mlt_mT, mlt_mF, nI_cl, gd_in, gd_T, Option.bind_some, pI_ne, pI_eq, pI_2, pL_1, pL_ne, pL_eq, pL_22, upEq, upN, aN_at, aN_up, nU_e, nU_n, aAdd_n, aAdd_nm, aSub_p, aSub_n, aSub_mn, aSub_mm, aMul_n, aDiv_n, aRem_n, eq_self_iff_true, y2]
    · have y2 := a7 hr
      rw [g8_0]
      unfold f_X8_readJoined
      simp (disch := omega) only [↓reduceIte, li_0, li_1, li_2, li_3, li_4, li_5, li_6, li_7, li_8, li_9, li_10, li_11, li_12, li_13, li_14, li_15, li_16, li_17, li_18, li_19, li_20, li_21, li_22, li_23, li_24, li_25, li_26, li_27, li_28, li_29, li_30, li_31, li_32, li_33, li_34, li_35, li_36, li_37, li_38, li_39, li_40, li_41, li_42, li_43, li_44, li_45, li_46, li_47, li_48, li_49, li_50, li_51, li_52, li_53, li_54, li_55, li_56, li_57, li_58, li_59, li_60, li_61, li_62, li_63, li_70, li_80, li_81, li_95, li_98, li_99, li_100, li_101, li_102, li_103, li_104, li_105, li_106, li_107, li_108, li_109, li_110, li_111, li_112, li_120, li_122, li_124, li_126, li_130, li_168, li_175, li_200, li_255, li_260, li_360, li_1440, li_12345, li_1000000, li_1103515245, neg_nI, nltT, nltF, neqT, neqF, mlt_n, nlt_m, meq_n, neq_m, meq_mT, meq_mF, mlt_mT, mlt_mF, nI_cl, gd_in, gd_T, Option.bind_some, pI_ne, pI_eq, pI_2, pL_1, pL_ne, pL_eq, pL_22, upEq, upN, aN_at, aN_up, nU_e, nU_n, aAdd_n, aAdd_nm, aSub_p, aSub_n, aSub_mn, aSub_mm, aMul_n, aDiv_n, aRem_n, eq_self_iff_true, y2]
  | succ j ih =>
    intro hj n hn s N D h x
    obtain ⟨n, rfl⟩ : ∃ n', n = n' + 1 := ⟨n - 1, by omega⟩
    have hc := ih (by omega) n (by omega)
    have e5 : 5 - j = 4 - j + 1 := by omega
    rw [e5] at hc
    obtain ⟨s1, N1, D1, a1, a2, a3, a4, a5, a6, a7⟩ := hc s N D h x
    have hmx : mxF (4 - j) ≤ 120 := by unfold mxF; split <;> omega
    have lp : ∀ x3, ((jvF (tkF tl tp) X j h).1 = true → ∃ z, z < N1 ∧ x3 = nI z ∧ D1 z = (jvF (tkF tl tp) X j h).2.2.1) → ((jvF (tkF tl tp) X j h).1 = false → x3 = mI 1) → _ := fun x3 p q => c_loop (g_X8R n) hd ht hp (by omega : 4 - j ≤ 4) hc (mxF (4 - j)) hmx (mxF (4 - j)) 0 fuel0 (jvF (tkF tl tp) X j h) s1 N1 D1 x3 (by omega) (by rw [fuel0_eq]; omega) a1 p q
    have run : ∀ x3, g_X8R n 0 (nI (4 - j + 1)) (nI o) s = some (x3, s1) → g_X8R (n + 1) 0 (nI (5 - (j + 1))) (nI o) s = F_X8_readJoined_36 (g_X8R n) fuel0 (nI (4 - j)) (nI o) x3 (nI (mxF (4 - j))) (nI 0) s1 := by
      intro x3 hx
      rw [show 5 - (j + 1) = 4 - j by omega, g8_0]
      unfold f_X8_readJoined mxF
      by_cases c : 4 - j = 2
      · rw [if_pos c]
        simp (disch := omega) only [↓reduceIte, li_0, li_1, li_2, li_3, li_4, li_5, li_6, li_7, li_8, li_9, li_10, li_11, li_12, li_13, li_14, li_15, li_16, li_17, li_18, li_19, li_20, li_21, li_22, li_23, li_24, li_25, li_26, li_27, li_28, li_29, li_30, li_31, li_32, li_33, li_34, li_35, li_36, li_37, li_38, li_39, li_40, li_41, li_42, li_43, li_44, li_45, li_46, li_47, li_48, li_49, li_50, li_51, li_52, li_53, li_54, li_55, li_56, li_57, li_58, li_59, li_60, li_61, li_62, li_63, li_70, li_80, li_81, li_95, li_98, li_99, li_100, li_101, li_102, li_103, li_104, li_105, li_106, li_107, li_108, li_109, li_110, li_111, li_112, li_120, li_122, li_124, li_126, li_130, li_168, li_175, li_200, li_255, li_260, li_360, li_1440, li_12345, li_1000000, li_1103515245, neg_nI, nltT, nltF, neqT, neqF, mlt_n, nlt_m, meq_n, neq_m, meq_mT, meq_mF, mlt_mT, mlt_mF, nI_cl, gd_in, gd_T, Option.bind_some, pI_ne, pI_eq, pI_2, pL_1, pL_ne, pL_eq, pL_22, upEq, upN, aN_at, aN_up, nU_e, nU_n, aAdd_n, aAdd_nm, aSub_p, aSub_n, aSub_mn, aSub_mm, aMul_n, aDiv_n, aRem_n, eq_self_iff_true, hx]
      · rw [if_neg c]
        simp (disch := omega) only [↓reduceIte, li_0, li_1, li_2, li_3, li_4, li_5, li_6, li_7, li_8, li_9, li_10, li_11, li_12, li_13, li_14, li_15, li_16, li_17, li_18, li_19, li_20, li_21, li_22, li_23, li_24, li_25, li_26, li_27, li_28, li_29, li_30, li_31, li_32, li_33, li_34, li_35, li_36, li_37, li_38, li_39, li_40, li_41, li_42, li_43, li_44, li_45, li_46, li_47, li_48, li_49, li_50, li_51, li_52, li_53, li_54, li_55, li_56, li_57, li_58, li_59, li_60, li_61, li_62, li_63, li_70, li_80, li_81, li_95, li_98, li_99, li_100, li_101, li_102, li_103, li_104, li_105, li_106, li_107, li_108, li_109, li_110, li_111, li_112, li_120, li_122, li_124, li_126, li_130, li_168, li_175, li_200, li_255, li_260, li_360, li_1440, li_12345, li_1000000, li_1103515245, neg_nI, nltT, nltF, neqT, neqF, mlt_n, nlt_m, meq_n, neq_m, meq_mT, meq_mF, mlt_mT, mlt_mF, nI_cl, gd_in, gd_T, Option.bind_some, pI_ne, pI_eq, pI_2, pL_1, pL_ne, pL_eq, pL_22, upEq, upN, aN_at, aN_up, nU_e, nU_n, aAdd_n, aAdd_nm, aSub_p, aSub_n, aSub_mn, aSub_mm, aMul_n, aDiv_n, aRem_n, eq_self_iff_true, hx]
    cases hr : (jvF (tkF tl tp) X j h).1 with
    | true =>
      obtain ⟨z, z1, z2, z3⟩ := a6 hr
      obtain ⟨s2, N2, D2, b1, b2, b3, b4, b5, b6, b7⟩ := lp (nI z) (fun _ => ⟨z, z1, rfl, z3⟩) (fun y => by rw [hr] at y; cases y)
      refine ⟨s2, N2, D2, b1, by omega, ?_, fun k hk => by rw [b4 k (by omega), a4 k hk], FrP_tr a5 b5, fun y => ?_, fun y => ?_⟩
      · have b3 : N2 + (jvF (tkF tl tp) X j h).2.2.2 ≤ N1 + (jvF (tkF tl tp) X (j + 1) h).2.2.2 := b3
        omega
      · obtain ⟨w, w1, w2, w3⟩ := b6 y
        exact ⟨w, w1, by rw [run _ z2]; exact w2, w3⟩
      · rw [run _ z2]; exact b7 y
    | false =>
      have z2 := a7 hr
      obtain ⟨s2, N2, D2, b1, b2, b3, b4, b5, b6, b7⟩ := lp (mI 1) (fun y => by rw [hr] at y; cases y) (fun _ => rfl)
      refine ⟨s2, N2, D2, b1, by omega, ?_, fun k hk => by rw [b4 k (by omega), a4 k hk], FrP_tr a5 b5, fun y => ?_, fun y => ?_⟩
      · have b3 : N2 + (jvF (tkF tl tp) X j h).2.2.2 ≤ N1 + (jvF (tkF tl tp) X (j + 1) h).2.2.2 := b3
        omega
      · obtain ⟨w, w1, w2, w3⟩ := b6 y
        exact ⟨w, w1, by rw [run _ z2]; exact w2, w3⟩
      · rw [run _ z2]; exact b7 y
