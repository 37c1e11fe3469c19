/-! the reference reads: the five levels -/
theorem MX_25 {s : SS} {tl : Nat} {tp : Nat → Nat} {l h : Nat} (x : MX s tl tp h l) : s.1 74 25 = nI h := x.2.1
theorem lk_of {tl : Nat} {tp : Nat → Nat} (hp : ∀ k, tp k ≤ 255) {h c : Nat} (e : tkF tl tp h = c) (hc : c < 128) : lkV tl tp h = nI c := (lk_eq hp h c hc).mpr e
theorem m_lev4 {tl : Nat} {tp : Nat → Nat} {o : Nat} {X : Nat → Rs} {rc : Nat → SS → Option SS} (ht : tl ≤ 120) (hp : ∀ k, tp k ≤ 255) (hX : MIr tl tp o (rc 0) X) (pX : PX (tkF tl tp) X) : MIr tl tp o (f_X12_product rc) (lvS (tkF tl tp) 4 X) := by
  have f0 : fuel0 = mxF 4 + 1880 := fuel0_eq
  unfold f_X12_product
  rw [f0]
  refine m_lvl (Z := True) (L := F_X12_product_4 rc) ht hX pX (fun m s l h x => ?_) (fun m s l h x c => ?_) (fun m s l h x c => ?_) (fun s l h x c => ?_) (fun _ => rfl)
  · have h25 := x.2.1
    have h6 := x.2.2.2.2.2
    rw [show m + 1880 = m + 1879 + 1 by omega, F_X12_product_4]
    simp (disch := omega) only [↓reduceIte, li_0, li_1, li_2, li_3, li_4, li_5, li_6, li_7, li_8, li_9, li_10, li_11, li_12, li_13, li_14, li_15, li_16, li_17, li_18, li_19, li_20, li_21, li_22, li_23, li_24, li_25, li_26, li_27, li_28, li_29, li_30, li_31, li_32, li_33, li_34, li_35, li_36, li_37, li_38, li_39, li_40, li_41, li_42, li_43, li_44, li_45, li_46, li_47, li_48, li_49, li_50, li_51, li_52, li_53, li_54, li_55, li_56, li_57, li_58, li_59, li_60, li_61, li_62, li_63, li_70, li_80, li_81, li_95, li_98, li_99, li_100, li_101, li_102, li_103, li_104, li_105, li_106, li_107, li_108, li_109, li_110, li_111, li_112, li_120, li_122, li_124, li_126, li_130, li_168, li_175, li_200, li_255, li_260, li_360, li_1440, li_12345, li_1000000, li_1103515245, neg_nI, nltT, nltF, neqT, neqF, mlt_n, nlt_m, meq_n, neq_m, meq_mT, meq_mF, mlt_mT, mlt_mF, nI_cl, gd_in, gd_T, Option.bind_some, pI_ne, pI_eq, pI_2, pL_1, pL_ne, pL_eq, pL_22, upEq, upN, aN_at, aN_up, nU_e, nU_n, aAdd_n, aAdd_nm, aSub_p, aSub_n, aSub_mn, aSub_mm, aMul_n, aDiv_n, aRem_n, eq_self_iff_true, h25]
  · have h25 := x.2.1
    have hk := MS_look x ht
    have c := of_decide_eq_false c
    have e1 : tkF tl tp h ≠ 42 := by omega
    have e2 : tkF tl tp h ≠ 47 := by omega
    have e3 : tkF tl tp h ≠ 37 := by omega
    have k1 := lk_eq (tl := tl) hp h 42 (by omega)
    have k2 := lk_eq (tl := tl) hp h 47 (by omega)
    have k3 := lk_eq (tl := tl) hp h 37 (by omega)
    rw [show m + 1880 = m + 1879 + 1 by omega, F_X12_product_4]
    simp (disch := omega) only [↓bE (hk), ↓reduceIte, li_0, li_1, li_2, li_3, li_4, li_5, li_6, li_7, li_8, li_9, li_10, li_11, li_12, li_13, li_14, li_15, li_16, li_17, li_18, li_19, li_20, li_21, li_22, li_23, li_24, li_25, li_26, li_27, li_28, li_29, li_30, li_31, li_32, li_33, li_34, li_35, li_36, li_37, li_38, li_39, li_40, li_41, li_42, li_43, li_44, li_45, li_46, li_47, li_48, li_49, li_50, li_51, li_52, li_53, li_54, li_55, li_56, li_57, li_58, li_59, li_60, li_61, li_62, li_63, li_70, li_80, li_81, li_95, li_98, li_99, li_100, li_101, li_102, li_103, li_104, li_105, li_106, li_107, li_108, li_109, li_110, li_111, li_112, li_120, li_122, li_124, li_126, li_130, li_168, li_175, li_200, li_255, li_260, li_360, li_1440, li_12345, li_1000000, li_1103515245, neg_nI, nltT, nltF, neqT, neqF, mlt_n, nlt_m, meq_n, neq_m, meq_mT, meq_mF, mlt_mT, mlt_mF, nI_cl, gd_in, gd_T, Option.bind_some, pI_ne, pI_eq, pI_2, pL_1, pL_ne, pL_eq, pL_22, upEq, upN, aN_at, aN_up, nU_e, nU_n, aAdd_n, aAdd_nm, aSub_p, aSub_n, aSub_mn, aSub_mm, aMul_n, aDiv_n, aRem_n, eq_self_iff_true, h25, k1, k2, k3, e1, e2, e3]
  · have h25 := x.2.1
    have h24 := x.1
    have hk := MS_look x ht
    have c := of_decide_eq_true c
    rw [show m + 1 + 1880 = m + 1880 + 1 by omega, F_X12_product_4]
    rcases c with c | c | c
    · rw [lk_of hp c (by omega)] at hk
      rw [c]
      simp (disch := omega) only [↓bE (hk), ↓reduceIte, li_0, li_1, li_2, li_3, li_4, li_5, li_6, li_7, li_8, li_9, li_10, li_11, li_12, li_13, li_14, li_15, li_16, li_17, li_18, li_19, li_20, li_21, li_22, li_23, li_24, li_25, li_26, li_27, li_28, li_29, li_30, li_31, li_32, li_33, li_34, li_35, li_36, li_37, li_38, li_39, li_40, li_41, li_42, li_43, li_44, li_45, li_46, li_47, li_48, li_49, li_50, li_51, li_52, li_53, li_54, li_55, li_56, li_57, li_58, li_59, li_60, li_61, li_62, li_63, li_70, li_80, li_81, li_95, li_98, li_99, li_100, li_101, li_102, li_103, li_104, li_105, li_106, li_107, li_108, li_109, li_110, li_111, li_112, li_120, li_122, li_124, li_126, li_130, li_168, li_175, li_200, li_255, li_260, li_360, li_1440, li_12345, li_1000000, li_1103515245, neg_nI, nltT, nltF, neqT, neqF, mlt_n, nlt_m, meq_n, neq_m, meq_mT, meq_mF, mlt_mT, mlt_mF, nI_cl, gd_in, gd_T, Option.bind_some, pI_ne, pI_eq, pI_2, pL_1, pL_ne, pL_eq, pL_22, upEq, upN, aN_at, aN_up, nU_e, nU_n, aAdd_n, aAdd_nm, aSub_p, aSub_n, aSub_mn, aSub_mm, aMul_n, aDiv_n, aRem_n, eq_self_iff_true, h25, h24]
    · rw [lk_of hp c (by omega)] at hk
      rw [c]
      simp (disch := omega) only [↓bE (hk), ↓reduceIte, li_0, li_1, li_2, li_3, li_4, li_5, li_6, li_7, li_8, li_9, li_10, li_11, li_12, li_13, li_14, li_15, li_16, li_17, li_18, li_19, li_20, li_21, li_22, li_23, li_24, li_25, li_26, li_27, li_28, li_29, li_30, li_31, li_32, li_33, li_34, li_35, li_36, li_37, li_38, li_39, li_40, li_41, li_42, li_43, li_44, li_45, li_46, li_47, li_48, li_49, li_50, li_51, li_52, li_53, li_54, li_55, li_56, li_57, li_58, li_59, li_60, li_61, li_62, li_63, li_70, li_80, li_81, li_95, li_98, li_99, li_100, li_101, li_102, li_103, li_104, li_105, li_106, li_107, li_108, li_109, li_110, li_111, li_112, li_120, li_122, li_124, li_126, li_130, li_168, li_175, li_200, li_255, li_260, li_360, li_1440, li_12345, li_1000000, li_1103515245, neg_nI, nltT, nltF, neqT, neqF, mlt_n, nlt_m, meq_n, neq_m, meq_mT, meq_mF, mlt_mT, mlt_mF, nI_cl, gd_in, gd_T, Option.bind_some, pI_ne, pI_eq, pI_2, pL_1, pL_ne, pL_eq, pL_22, upEq, upN, aN_at, aN_up, nU_e, nU_n, aAdd_n, aAdd_nm, aSub_p, aSub_n, aSub_mn, aSub_mm, aMul_n, aDiv_n, aRem_n, eq_self_iff_true, h25, h24]
    · rw [lk_of hp c (by omega)] at hk
      rw [c]
      simp (disch := omega) only [↓bE (hk), ↓reduceIte, li_0, li_1, li_2, li_3, li_4, li_5, li_6, li_7, li_8, li_9, li_10, li_11, li_12, li_13, li_14, li_15, li_16, li_17, li_18, li_19, li_20, li_21, li_22, li_23, li_24, li_25, li_26, li_27, li_28, li_29, li_30, li_31, li_32, li_33, li_34, li_35, li_36, li_37, li_38, li_39, li_40, li_41, li_42, li_43, li_44, li_45, li_46, li_47, li_48, li_49, li_50, li_51, li_52, li_53, li_54, li_55, li_56, li_57, li_58, li_59, li_60, li_61, li_62, li_63, li_70, li_80, li_81, li_95, li_98, li_99, li_100, li_101, li_102, li_103, li_104, li_105, li_106, li_107, li_108, li_109, li_110, li_111, li_112, li_120, li_122, li_124, li_126, li_130, li_168, li_175, li_200, li_255, li_260, li_360, li_1440, li_12345, li_1000000, li_1103515245, neg_nI, nltT, nltF, neqT, neqF, mlt_n, nlt_m, meq_n, neq_m, meq_mT, meq_mF, mlt_mT, mlt_mF, nI_cl, gd_in, gd_T, Option.bind_some, pI_ne, pI_eq, pI_2, pL_1, pL_ne, pL_eq, pL_22, upEq, upN, aN_at, aN_up, nU_e, nU_n, aAdd_n, aAdd_nm, aSub_p, aSub_n, aSub_mn, aSub_mm, aMul_n, aDiv_n, aRem_n, eq_self_iff_true, h25, h24]
  · have c := c trivial
    have h25 := x.2.1
    have hk := MS_look x ht
    have e0 : tkF tl tp h = 200 := if_neg (by omega)
    have e1 : tkF tl tp h ≠ 42 := by omega
    have e2 : tkF tl tp h ≠ 47 := by omega
    have e3 : tkF tl tp h ≠ 37 := by omega
    have k1 := lk_eq (tl := tl) hp h 42 (by omega)
    have k2 := lk_eq (tl := tl) hp h 47 (by omega)
    have k3 := lk_eq (tl := tl) hp h 37 (by omega)
    rw [show 0 + 1880 = 1879 + 1 by omega, F_X12_product_4]
    simp (disch := omega) only [↓bE (hk), ↓reduceIte, li_0, li_1, li_2, li_3, li_4, li_5, li_6, li_7, li_8, li_9, li_10, li_11, li_12, li_13, li_14, li_15, li_16, li_17, li_18, li_19, li_20, li_21, li_22, li_23, li_24, li_25, li_26, li_27, li_28, li_29, li_30, li_31, li_32, li_33, li_34, li_35, li_36, li_37, li_38, li_39, li_40, li_41, li_42, li_43, li_44, li_45, li_46, li_47, li_48, li_49, li_50, li_51, li_52, li_53, li_54, li_55, li_56, li_57, li_58, li_59, li_60, li_61, li_62, li_63, li_70, li_80, li_81, li_95, li_98, li_99, li_100, li_101, li_102, li_103, li_104, li_105, li_106, li_107, li_108, li_109, li_110, li_111, li_112, li_120, li_122, li_124, li_126, li_130, li_168, li_175, li_200, li_255, li_260, li_360, li_1440, li_12345, li_1000000, li_1103515245, neg_nI, nltT, nltF, neqT, neqF, mlt_n, nlt_m, meq_n, neq_m, meq_mT, meq_mF, mlt_mT, mlt_mF, nI_cl, gd_in, gd_T, Option.bind_some, pI_ne, pI_eq, pI_2, pL_1, pL_ne, pL_eq, pL_22, upEq, upN, aN_at, aN_up, nU_e, nU_n, aAdd_n, aAdd_nm, aSub_p, aSub_n, aSub_mn, aSub_mm, aMul_n, aDiv_n, aRem_n, eq_self_iff_true, h25, k1, k2, k3, e1, e2, e3]
theorem m_lev3 {tl : Nat} {tp : Nat → Nat} {o : Nat} {X : Nat → Rs} {rc : Nat → SS → Option SS} (ht : tl ≤ 120) (hp : ∀ k, tp k ≤ 255) (hX : MIr tl tp o (rc 1) X) (pX : PX (tkF tl tp) X) : MIr tl tp o (f_X12_sum rc) (lvS (tkF tl tp) 3 X) := by
  have f0 : fuel0 = mxF 3 + 1880 := fuel0_eq
  unfold f_X12_sum
  rw [f0]
  refine m_lvl (Z := True) (L := F_X12_sum_4 rc) ht hX pX (fun m s l h x => ?_) (fun m s l h x c => ?_) (fun m s l h x c => ?_) (fun s l h x c => ?_) (fun _ => rfl)
  · have h25 := x.2.1
    have h6 := x.2.2.2.2.2
    rw [show m + 1880 = m + 1879 + 1 by omega, F_X12_sum_4]
    simp (disch := omega) only [↓reduceIte, li_0, li_1, li_2, li_3, li_4, li_5, li_6, li_7, li_8, li_9, li_10, li_11, li_12, li_13, li_14, li_15, li_16, li_17, li_18, li_19, li_20, li_21, li_22, li_23, li_24, li_25, li_26, li_27, li_28, li_29, li_30, li_31, li_32, li_33, li_34, li_35, li_36, li_37, li_38, li_39, li_40, li_41, li_42, li_43, li_44, li_45, li_46, li_47, li_48, li_49, li_50, li_51, li_52, li_53, li_54, li_55, li_56, li_57, li_58, li_59, li_60, li_61, li_62, li_63, li_70, li_80, li_81, li_95, li_98, li_99, li_100, li_101, li_102, li_103, li_104, li_105, li_106, li_107, li_108, li_109, li_110, li_111, li_112, li_120, li_122, li_124, li_126, li_130, li_168, li_175, li_200, li_255, li_260, li_360, li_1440, li_12345, li_1000000, li_1103515245, neg_nI, nltT, nltF, neqT, neqF, mlt_n, nlt_m, meq_n, neq_m, meq_mT, meq_mF, mlt_mT, mlt_mF, nI_cl, gd_in, gd_T, Option.bind_some, pI_ne, pI_eq, pI_2, pL_1, pL_ne, pL_eq, pL_22, upEq, upN, aN_at, aN_up, nU_e, nU_n, aAdd_n, aAdd_nm, aSub_p, aSub_n, aSub_mn, aSub_mm, aMul_n, aDiv_n, aRem_n, eq_self_iff_true, h25]
  · have h25 := x.2.1
    have hk := MS_look x ht
    have c := of_decide_eq_false c
    have e1 : tkF tl tp h ≠ 43 := by omega
    have e2 : tkF tl tp h ≠ 45 := by omega
    have k1 := lk_eq (tl := tl) hp h 43 (by omega)
    have k2 := lk_eq (tl := tl) hp h 45 (by omega)
    rw [show m + 1880 = m + 1879 + 1 by omega, F_X12_sum_4]
    simp (disch := omega) only [↓bE (hk), ↓reduceIte, li_0, li_1, li_2, li_3, li_4, li_5, li_6, li_7, li_8, li_9, li_10, li_11, li_12, li_13, li_14, li_15, li_16, li_17, li_18, li_19, li_20, li_21, li_22, li_23, li_24, li_25, li_26, li_27, li_28, li_29, li_30, li_31, li_32, li_33, li_34, li_35, li_36, li_37, li_38, li_39, li_40, li_41, li_42, li_43, li_44, li_45, li_46, li_47, li_48, li_49, li_50, li_51, li_52, li_53, li_54, li_55, li_56, li_57, li_58, li_59, li_60, li_61, li_62, li_63, li_70, li_80, li_81, li_95, li_98, li_99, li_100, li_101, li_102, li_103, li_104, li_105, li_106, li_107, li_108, li_109, li_110, li_111, li_112, li_120, li_122, li_124, li_126, li_130, li_168, li_175, li_200, li_255, li_260, li_360, li_1440, li_12345, li_1000000, li_1103515245, neg_nI, nltT, nltF, neqT, neqF, mlt_n, nlt_m, meq_n, neq_m, meq_mT, meq_mF, mlt_mT, mlt_mF, nI_cl, gd_in, gd_T, Option.bind_some, pI_ne, pI_eq, pI_2, pL_1, pL_ne, pL_eq, pL_22, upEq, upN, aN_at, aN_up, nU_e, nU_n, aAdd_n, aAdd_nm, aSub_p, aSub_n, aSub_mn, aSub_mm, aMul_n, aDiv_n, aRem_n, eq_self_iff_true, h25, k1, k2, e1, e2]
  · have h25 := x.2.1
    have h24 := x.1
    have hk := MS_look x ht
    have c := of_decide_eq_true c
    rw [show m + 1 + 1880 = m + 1880 + 1 by omega, F_X12_sum_4]
    rcases c with c | c
    · rw [lk_of hp c (by omega)] at hk
      rw [c]
      simp (disch := omega) only [↓bE (hk), ↓reduceIte, li_0, li_1, li_2, li_3, li_4, li_5, li_6, li_7, li_8, li_9, li_10, li_11, li_12, li_13, li_14, li_15, li_16, li_17, li_18, li_19, li_20, li_21, li_22, li_23, li_24, li_25, li_26, li_27, li_28, li_29, li_30, li_31, li_32, li_33, li_34, li_35, li_36, li_37, li_38, li_39, li_40, li_41, li_42, li_43, li_44, li_45, li_46, li_47, li_48, li_49, li_50, li_51, li_52, li_53, li_54, li_55, li_56, li_57, li_58, li_59, li_60, li_61, li_62, li_63, li_70, li_80, li_81, li_95, li_98, li_99, li_100, li_101, li_102, li_103, li_104, li_105, li_106, li_107, li_108, li_109, li_110, li_111, li_112, li_120, li_122, li_124, li_126, li_130, li_168, li_175, li_200, li_255, li_260, li_360, li_1440, li_12345, li_1000000, li_1103515245, neg_nI, nltT, nltF, neqT, neqF, mlt_n, nlt_m, meq_n, neq_m, meq_mT, meq_mF, mlt_mT, mlt_mF, nI_cl, gd_in, gd_T, Option.bind_some, pI_ne, pI_eq, pI_2, pL_1, pL_ne, pL_eq, pL_22, upEq, upN, aN_at, aN_up, nU_e, nU_n, aAdd_n, aAdd_nm, aSub_p, aSub_n, aSub_mn, aSub_mm, aMul_n, aDiv_n, aRem_n, eq_self_iff_true, h25, h24]
    · rw [lk_of hp c (by omega)] at hk
      rw [c]
      simp (disch := omega) only [↓bE (hk), ↓reduceIte, li_0, li_1, li_2, li_3, li_4, li_5, li_6, li_7, li_8, li_9, li_10, li_11, li_12, li_13, li_14, li_15, li_16, li_17, li_18, li_19, li_20, li_21, li_22, li_23, li_24, li_25, li_26, li_27, li_28, li_29, li_30, li_31, li_32, li_33, li_34, li_35, li_36, li_37, li_38, li_39, li_40, li_41, li_42, li_43, li_44, li_45, li_46, li_47, li_48, li_49, li_50, li_51, li_52, li_53, li_54, li_55, li_56, li_57, li_58, li_59, li_60, li_61, li_62, li_63, li_70, li_80, li_81, li_95, li_98, li_99, li_100, li_101, li_102, li_103, li_104, li_105, li_106, li_107, li_108, li_109, li_110, li_111, li_112, li_120, li_122, li_124, li_126, li_130, li_168, li_175, li_200, li_255, li_260, li_360, li_1440, li_12345, li_1000000, li_1103515245, neg_nI, nltT, nltF, neqT, neqF, mlt_n, nlt_m, meq_n, neq_m, meq_mT, meq_mF, mlt_mT, mlt_mF, nI_cl, gd_in, gd_T, Option.bind_some, pI_ne, pI_eq, pI_2, pL_1, pL_ne, pL_eq, pL_22, upEq, upN, aN_at, aN_up, nU_e, nU_n, aAdd_n, aAdd_nm, aSub_p, aSub_n, aSub_mn, aSub_mm, aMul_n, aDiv_n, aRem_n, eq_self_iff_true, h25, h24]
  · have c := c trivial
    have h25 := x.2.1
    have hk := MS_look x ht
    have e0 : tkF tl tp h = 200 := if_neg (by omega)
    have e1 : tkF tl tp h ≠ 43 := by omega
    have e2 : tkF tl tp h ≠ 45 := by omega
    have k1 := lk_eq (tl := tl) hp h 43 (by omega)
    have k2 := lk_eq (tl := tl) hp h 45 (by omega)
    rw [show 0 + 1880 = 1879 + 1 by omega, F_X12_sum_4]
    simp (disch := omega) only [↓bE (hk), ↓reduceIte, li_0, li_1, li_2, li_3, li_4, li_5, li_6, li_7, li_8, li_9, li_10, li_11, li_12, li_13, li_14, li_15, li_16, li_17, li_18, li_19, li_20, li_21, li_22, li_23, li_24, li_25, li_26, li_27, li_28, li_29, li_30, li_31, li_32, li_33, li_34, li_35, li_36, li_37, li_38, li_39, li_40, li_41, li_42, li_43, li_44, li_45, li_46, li_47, li_48, li_49, li_50, li_51, li_52, li_53, li_54, li_55, li_56, li_57, li_58, li_59, li_60, li_61, li_62, li_63, li_70, li_80, li_81, li_95, li_98, li_99, li_100, li_101, li_102, li_103, li_104, li_105, li_106, li_107, li_108, li_109, li_110, li_111, li_112, li_120, li_122, li_124, li_126, li_130, li_168, li_175, li_200, li_255, li_260, li_360, li_1440, li_12345, li_1000000, li_1103515245, neg_nI, nltT, nltF, neqT, neqF, mlt_n, nlt_m, meq_n, neq_m, meq_mT, meq_mF, mlt_mT, mlt_mF, nI_cl, gd_in, gd_T, Option.bind_some, pI_ne, pI_eq, pI_2, pL_1, pL_ne, pL_eq, pL_22, upEq, upN, aN_at, aN_up, nU_e, nU_n, aAdd_n, aAdd_nm, aSub_p, aSub_n, aSub_mn, aSub_mm, aMul_n, aDiv_n, aRem_n, eq_self_iff_true, h25, k1, k2, e1, e2]
noncomputable def cpL (R : SS → Option SS) : Nat → SS → Option SS
  | 0, s => some s
  | n + 1, s => ((f_X12_look  s).bind fun q2 => (if (q2.2.1 74 25) < 0 then (if q2.1 = (60 : Int32) then (let s3 : SS := pI q2.2 74 24 (aAdd (q2.2.1 74 24) (1 : Int32)); ((R  s3).bind fun q4 => ((f_X12_addStep q2.1 (0 : Int32) q4).bind fun q5 => (cpL R n q5)))) else (if q2.1 = (61 : Int32) then (let s6 : SS := pI q2.2 74 24 (aAdd (q2.2.1 74 24) (1 : Int32)); ((R  s6).bind fun q7 => ((f_X12_addStep q2.1 (0 : Int32) q7).bind fun q8 => (cpL R n q8)))) else (if q2.1 = (62 : Int32) then (let s9 : SS := pI q2.2 74 24 (aAdd (q2.2.1 74 24) (1 : Int32)); ((R  s9).bind fun q10 => ((f_X12_addStep q2.1 (0 : Int32) q10).bind fun q11 => (cpL R n q11)))) else (some q2.2)))) else (some q2.2)))
theorem cp_eq (rc : Nat → SS → Option SS) : f_X12_compared rc = (fun s => (rc 2 s).bind fun q => cpL (rc 2) (mxF 2 + 0) q) := rfl
theorem m_lev2 {tl : Nat} {tp : Nat → Nat} {o : Nat} {X : Nat → Rs} {rc : Nat → SS → Option SS} (ht : tl ≤ 120) (hp : ∀ k, tp k ≤ 255) (hX : MIr tl tp o (rc 2) X) (pX : PX (tkF tl tp) X) : MIr tl tp o (f_X12_compared rc) (lvS (tkF tl tp) 2 X) := by
  rw [cp_eq]
  refine m_lvl (Z := False) (L := cpL (rc 2)) ht hX pX (fun m s l h x => ?_) (fun m s l h x c => ?_) (fun m s l h x c => ?_) (fun s l h x c => rfl) (fun z => z.elim)
  · have h25 := x.2.1
    have h6 := x.2.2.2.2.2
    have hk := MX_look x ht
    cases m with
    | zero => rfl
    | succ m =>
      rw [show m + 1 + 0 = m + 1 by omega, cpL]
      simp (disch := omega) only [↓bE (hk), ↓reduceIte, li_0, li_1, li_2, li_3, li_4, li_5, li_6, li_7, li_8, li_9, li_10, li_11, li_12, li_13, li_14, li_15, li_16, li_17, li_18, li_19, li_20, li_21, li_22, li_23, li_24, li_25, li_26, li_27, li_28, li_29, li_30, li_31, li_32, li_33, li_34, li_35, li_36, li_37, li_38, li_39, li_40, li_41, li_42, li_43, li_44, li_45, li_46, li_47, li_48, li_49, li_50, li_51, li_52, li_53, li_54, li_55, li_56, li_57, li_58, li_59, li_60, li_61, li_62, li_63, li_70, li_80, li_81, li_95, li_98, li_99, li_100, li_101, li_102, li_103, li_104, li_105, li_106, li_107, li_108, li_109, li_110, li_111, li_112, li_120, li_122, li_124, li_126, li_130, li_168, li_175, li_200, li_255, li_260, li_360, li_1440, li_12345, li_1000000, li_1103515245, neg_nI, nltT, nltF, neqT, neqF, mlt_n, nlt_m, meq_n, neq_m, meq_mT, meq_mF, mlt_mT, mlt_mF, nI_cl, gd_in, gd_T, Option.bind_some, pI_ne, pI_eq, pI_2, pL_1, pL_ne, pL_eq, pL_22, upEq, upN, aN_at, aN_up, nU_e, nU_n, aAdd_n, aAdd_nm, aSub_p, aSub_n, aSub_mn, aSub_mm, aMul_n, aDiv_n, aRem_n, eq_self_iff_true, h25]
  · have h25 := x.2.1
    have hk := MS_look x ht
    have c := of_decide_eq_false c
    have e1 : tkF tl tp h ≠ 60 := by omega
    have e2 : tkF tl tp h ≠ 61 := by omega
    have e3 : tkF tl tp h ≠ 62 := by omega
    have k1 := lk_eq (tl := tl) hp h 60 (by omega)
    have k2 := lk_eq (tl := tl) hp h 61 (by omega)
    have k3 := lk_eq (tl := tl) hp h 62 (by omega)
    cases m with
    | zero => rfl
    | succ m =>
      rw [show m + 1 + 0 = m + 1 by omega, cpL]
      simp (disch := omega) only [↓bE (hk), ↓reduceIte, li_0, li_1, li_2, li_3, li_4, li_5, li_6, li_7, li_8, li_9, li_10, li_11, li_12, li_13, li_14, li_15, li_16, li_17, li_18, li_19, li_20, li_21, li_22, li_23, li_24, li_25, li_26, li_27, li_28, li_29, li_30, li_31, li_32, li_33, li_34, li_35, li_36, li_37, li_38, li_39, li_40, li_41, li_42, li_43, li_44, li_45, li_46, li_47, li_48, li_49, li_50, li_51, li_52, li_53, li_54, li_55, li_56, li_57, li_58, li_59, li_60, li_61, li_62, li_63, li_70, li_80, li_81, li_95, li_98, li_99, li_100, li_101, li_102, li_103, li_104, li_105, li_106, li_107, li_108, li_109, li_110, li_111, li_112, li_120, li_122, li_124, li_126, li_130, li_168, li_175, li_200, li_255, li_260, li_360, li_1440, li_12345, li_1000000, li_1103515245, neg_nI, nltT, nltF, neqT, neqF, mlt_n, nlt_m, meq_n, neq_m, meq_mT, meq_mF, mlt_mT, mlt_mF, nI_cl, gd_in, gd_T, Option.bind_some, pI_ne, pI_eq, pI_2, pL_1, pL_ne, pL_eq, pL_22, upEq, upN, aN_at, aN_up, nU_e, nU_n, aAdd_n, aAdd_nm, aSub_p, aSub_n, aSub_mn, aSub_mm, aMul_n, aDiv_n, aRem_n, eq_self_iff_true, h25, k1, k2, k3, e1, e2, e3]
  · have h25 := x.2.1
    have h24 := x.1
    have hk := MS_look x ht
    have c := of_decide_eq_true c
    rw [show m + 1 + 0 = m + 1 by omega, cpL]
    rcases c with c | c | c
    · rw [lk_of hp c (by omega)] at hk
      rw [c]
      simp (disch := omega) only [↓bE (hk), ↓reduceIte, li_0, li_1, li_2, li_3, li_4, li_5, li_6, li_7, li_8, li_9, li_10, li_11, li_12, li_13, li_14, li_15, li_16, li_17, li_18, li_19, li_20, li_21, li_22, li_23, li_24, li_25, li_26, li_27, li_28, li_29, li_30, li_31, li_32, li_33, li_34, li_35, li_36, li_37, li_38, li_39, li_40, li_41, li_42, li_43, li_44, li_45, li_46, li_47, li_48, li_49, li_50, li_51, li_52, li_53, li_54, li_55, li_56, li_57, li_58, li_59, li_60, li_61, li_62, li_63, li_70, li_80, li_81, li_95, li_98, li_99, li_100, li_101, li_102, li_103, li_104, li_105, li_106, li_107, li_108, li_109, li_110, li_111, li_112, li_120, li_122, li_124, li_126, li_130, li_168, li_175, li_200, li_255, li_260, li_360, li_1440, li_12345, li_1000000, li_1103515245, neg_nI, nltT, nltF, neqT, neqF, mlt_n, nlt_m, meq_n, neq_m, meq_mT, meq_mF, mlt_mT, mlt_mF, nI_cl, gd_in, gd_T, Option.bind_some, pI_ne, pI_eq, pI_2, pL_1, pL_ne, pL_eq, pL_22, upEq, upN, aN_at, aN_up, nU_e, nU_n, aAdd_n, aAdd_nm, aSub_p, aSub_n, aSub_mn, aSub_mm, aMul_n, aDiv_n, aRem_n, eq_self_iff_true, h25, h24]
      rfl
    · rw [lk_of hp c (by omega)] at hk
      rw [c]
      simp (disch := omega) only [↓bE (hk), ↓reduceIte, li_0, li_1, li_2, li_3, li_4, li_5, li_6, li_7, li_8, li_9, li_10, li_11, li_12, li_13, li_14, li_15, li_16, li_17, li_18, li_19, li_20, li_21, li_22, li_23, li_24, li_25, li_26, li_27, li_28, li_29, li_30, li_31, li_32, li_33, li_34, li_35, li_36, li_37, li_38, li_39, li_40, li_41, li_42, li_43, li_44, li_45, li_46, li_47, li_48, li_49, li_50, li_51, li_52, li_53, li_54, li_55, li_56, li_57, li_58, li_59, li_60, li_61, li_62, li_63, li_70, li_80, li_81, li_95, li_98, li_99, li_100, li_101, li_102, li_103, li_104, li_105, li_106, li_107, li_108, li_109, li_110, li_111, li_112, li_120, li_122, li_124, li_126, li_130, li_168, li_175, li_200, li_255, li_260, li_360, li_1440, li_12345, li_1000000, li_1103515245, neg_nI, nltT, nltF, neqT, neqF, mlt_n, nlt_m, meq_n, neq_m, meq_mT, meq_mF, mlt_mT, mlt_mF, nI_cl, gd_in, gd_T, Option.bind_some, pI_ne, pI_eq, pI_2, pL_1, pL_ne, pL_eq, pL_22, upEq, upN, aN_at, aN_up, nU_e, nU_n, aAdd_n, aAdd_nm, aSub_p, aSub_n, aSub_mn, aSub_mm, aMul_n, aDiv_n, aRem_n, eq_self_iff_true, h25, h24]
      rfl
    · rw [lk_of hp c (by omega)] at hk
      rw [c]
      simp (disch := omega) only [↓bE (hk), ↓reduceIte, li_0, li_1, li_2, li_3, li_4, li_5, li_6, li_7, li_8, li_9, li_10, li_11, li_12, li_13, li_14, li_15, li_16, li_17, li_18, li_19, li_20, li_21, li_22, li_23, li_24, li_25, li_26, li_27, li_28, li_29, li_30, li_31, li_32, li_33, li_34, li_35, li_36, li_37, li_38, li_39, li_40, li_41, li_42, li_43, li_44, li_45, li_46, li_47, li_48, li_49, li_50, li_51, li_52, li_53, li_54, li_55, li_56, li_57, li_58, li_59, li_60, li_61, li_62, li_63, li_70, li_80, li_81, li_95, li_98, li_99, li_100, li_101, li_102, li_103, li_104, li_105, li_106, li_107, li_108, li_109, li_110, li_111, li_112, li_120, li_122, li_124, li_126, li_130, li_168, li_175, li_200, li_255, li_260, li_360, li_1440, li_12345, li_1000000, li_1103515245, neg_nI, nltT, nltF, neqT, neqF, mlt_n, nlt_m, meq_n, neq_m, meq_mT, meq_mF, mlt_mT, mlt_mF, nI_cl, gd_in, gd_T, Option.bind_some, pI_ne, pI_eq, pI_2, pL_1, pL_ne, pL_eq, pL_22, upEq, upN, aN_at, aN_up, nU_e, nU_n, aAdd_n, aAdd_nm, aSub_p, aSub_n, aSub_mn, aSub_mm, aMul_n, aDiv_n, aRem_n, eq_self_iff_true, h25, h24]
      rfl
theorem m_lev1 {tl : Nat} {tp : Nat → Nat} {o : Nat} {X : Nat → Rs} {rc : Nat → SS → Option SS} (ht : tl ≤ 120) (hp : ∀ k, tp k ≤ 255) (hX : MIr tl tp o (rc 3) X) (pX : PX (tkF tl tp) X) : MIr tl tp o (f_X12_both rc) (lvS (tkF tl tp) 1 X) := by
  have f0 : fuel0 = mxF 1 + 1880 := fuel0_eq
  unfold f_X12_both
  rw [f0]
  refine m_lvl (Z := True) (L := F_X12_both_4 rc) ht hX pX (fun m s l h x => ?_) (fun m s l h x c => ?_) (fun m s l h x c => ?_) (fun s l h x c => ?_) (fun _ => rfl)
  · have h25 := x.2.1
    have h6 := x.2.2.2.2.2
    rw [show m + 1880 = m + 1879 + 1 by omega, F_X12_both_4]
    simp (disch := omega) only [↓reduceIte, li_0, li_1, li_2, li_3, li_4, li_5, li_6, li_7, li_8, li_9, li_10, li_11, li_12, li_13, li_14, li_15, li_16, li_17, li_18, li_19, li_20, li_21, li_22, li_23, li_24, li_25, li_26, li_27, li_28, li_29, li_30, li_31, li_32, li_33, li_34, li_35, li_36, li_37, li_38, li_39, li_40, li_41, li_42, li_43, li_44, li_45, li_46, li_47, li_48, li_49, li_50, li_51, li_52, li_53, li_54, li_55, li_56, li_57, li_58, li_59, li_60, li_61, li_62, li_63, li_70, li_80, li_81, li_95, li_98, li_99, li_100, li_101, li_102, li_103, li_104, li_105, li_106, li_107, li_108, li_109, li_110, li_111, li_112, li_120, li_122, li_124, li_126, li_130, li_168, li_175, li_200, li_255, li_260, li_360, li_1440, li_12345, li_1000000, li_1103515245, neg_nI, nltT, nltF, neqT, neqF, mlt_n, nlt_m, meq_n, neq_m, meq_mT, meq_mF, mlt_mT, mlt_mF, nI_cl, gd_in, gd_T, Option.bind_some, pI_ne, pI_eq, pI_2, pL_1, pL_ne, pL_eq, pL_22, upEq, upN, aN_at, aN_up, nU_e, nU_n, aAdd_n, aAdd_nm, aSub_p, aSub_n, aSub_mn, aSub_mm, aMul_n, aDiv_n, aRem_n, eq_self_iff_true, h25]
  · have h25 := x.2.1
    have hk := MS_look x ht
    have e1 : tkF tl tp h ≠ 38 := of_decide_eq_false c
    have k1 := lk_eq (tl := tl) hp h 38 (by omega)
    rw [show m + 1880 = m + 1879 + 1 by omega, F_X12_both_4]
    simp (disch := omega) only [↓bE (hk), ↓reduceIte, li_0, li_1, li_2, li_3, li_4, li_5, li_6, li_7, li_8, li_9, li_10, li_11, li_12, li_13, li_14, li_15, li_16, li_17, li_18, li_19, li_20, li_21, li_22, li_23, li_24, li_25, li_26, li_27, li_28, li_29, li_30, li_31, li_32, li_33, li_34, li_35, li_36, li_37, li_38, li_39, li_40, li_41, li_42, li_43, li_44, li_45, li_46, li_47, li_48, li_49, li_50, li_51, li_52, li_53, li_54, li_55, li_56, li_57, li_58, li_59, li_60, li_61, li_62, li_63, li_70, li_80, li_81, li_95, li_98, li_99, li_100, li_101, li_102, li_103, li_104, li_105, li_106, li_107, li_108, li_109, li_110, li_111, li_112, li_120, li_122, li_124, li_126, li_130, li_168, li_175, li_200, li_255, li_260, li_360, li_1440, li_12345, li_1000000, li_1103515245, neg_nI, nltT, nltF, neqT, neqF, mlt_n, nlt_m, meq_n, neq_m, meq_mT, meq_mF, mlt_mT, mlt_mF, nI_cl, gd_in, gd_T, Option.bind_some, pI_ne, pI_eq, pI_2, pL_1, pL_ne, pL_eq, pL_22, upEq, upN, aN_at, aN_up, nU_e, nU_n, aAdd_n, aAdd_nm, aSub_p, aSub_n, aSub_mn, aSub_mm, aMul_n, aDiv_n, aRem_n, eq_self_iff_true, h25, k1, e1]
  · have h25 := x.2.1
    have h24 := x.1
    have hk := MS_look x ht
    have c : tkF tl tp h = 38 := of_decide_eq_true c
    rw [show m + 1 + 1880 = m + 1880 + 1 by omega, F_X12_both_4]
    rw [lk_of hp c (by omega)] at hk
    rw [c]
    simp (disch := omega) only [↓bE (hk), ↓reduceIte, li_0, li_1, li_2, li_3, li_4, li_5, li_6, li_7, li_8, li_9, li_10, li_11, li_12, li_13, li_14, li_15, li_16, li_17, li_18, li_19, li_20, li_21, li_22, li_23, li_24, li_25, li_26, li_27, li_28, li_29, li_30, li_31, li_32, li_33, li_34, li_35, li_36, li_37, li_38, li_39, li_40, li_41, li_42, li_43, li_44, li_45, li_46, li_47, li_48, li_49, li_50, li_51, li_52, li_53, li_54, li_55, li_56, li_57, li_58, li_59, li_60, li_61, li_62, li_63, li_70, li_80, li_81, li_95, li_98, li_99, li_100, li_101, li_102, li_103, li_104, li_105, li_106, li_107, li_108, li_109, li_110, li_111, li_112, li_120, li_122, li_124, li_126, li_130, li_168, li_175, li_200, li_255, li_260, li_360, li_1440, li_12345, li_1000000, li_1103515245, neg_nI, nltT, nltF, neqT, neqF, mlt_n, nlt_m, meq_n, neq_m, meq_mT, meq_mF, mlt_mT, mlt_mF, nI_cl, gd_in, gd_T, Option.bind_some, pI_ne, pI_eq, pI_2, pL_1, pL_ne, pL_eq, pL_22, upEq, upN, aN_at, aN_up, nU_e, nU_n, aAdd_n, aAdd_nm, aSub_p, aSub_n, aSub_mn, aSub_mm, aMul_n, aDiv_n, aRem_n, eq_self_iff_true, h25, h24]
  · have c := c trivial
    have h25 := x.2.1
    have hk := MS_look x ht
    have e0 : tkF tl tp h = 200 := if_neg (by omega)
    have e1 : tkF tl tp h ≠ 38 := by omega
    have k1 := lk_eq (tl := tl) hp h 38 (by omega)
    rw [show 0 + 1880 = 1879 + 1 by omega, F_X12_both_4]
    simp (disch := omega) only [↓bE (hk), ↓reduceIte, li_0, li_1, li_2, li_3, li_4, li_5, li_6, li_7, li_8, li_9, li_10, li_11, li_12, li_13, li_14, li_15, li_16, li_17, li_18, li_19, li_20, li_21, li_22, li_23, li_24, li_25, li_26, li_27, li_28, li_29, li_30, li_31, li_32, li_33, li_34, li_35, li_36, li_37, li_38, li_39, li_40, li_41, li_42, li_43, li_44, li_45, li_46, li_47, li_48, li_49, li_50, li_51, li_52, li_53, li_54, li_55, li_56, li_57, li_58, li_59, li_60, li_61, li_62, li_63, li_70, li_80, li_81, li_95, li_98, li_99, li_100, li_101, li_102, li_103, li_104, li_105, li_106, li_107, li_108, li_109, li_110, li_111, li_112, li_120, li_122, li_124, li_126, li_130, li_168, li_175, li_200, li_255, li_260, li_360, li_1440, li_12345, li_1000000, li_1103515245, neg_nI, nltT, nltF, neqT, neqF, mlt_n, nlt_m, meq_n, neq_m, meq_mT, meq_mF, mlt_mT, mlt_mF, nI_cl, gd_in, gd_T, Option.bind_some, pI_ne, pI_eq, pI_2, pL_1, pL_ne, pL_eq, pL_22, upEq, upN, aN_at, aN_up, nU_e, nU_n, aAdd_n, aAdd_nm, aSub_p, aSub_n, aSub_mn, aSub_mm, aMul_n, aDiv_n, aRem_n, eq_self_iff_true, h25, k1, e1]
theorem m_lev0 {tl : Nat} {tp : Nat → Nat} {o : Nat} {X : Nat → Rs} {rc : Nat → SS → Option SS} (ht : tl ≤ 120) (hp : ∀ k, tp k ≤ 255) (hX : MIr tl tp o (rc 4) X) (pX : PX (tkF tl tp) X) : MIr tl tp o (f_X12_either rc) (lvS (tkF tl tp) 0 X) := by
  have f0 : fuel0 = mxF 0 + 1880 := fuel0_eq
  unfold f_X12_either
  rw [f0]
  refine m_lvl (Z := True) (L := F_X12_either_4 rc) ht hX pX (fun m s l h x => ?_) (fun m s l h x c => ?_) (fun m s l h x c => ?_) (fun s l h x c => ?_) (fun _ => rfl)
  · have h25 := x.2.1
    have h6 := x.2.2.2.2.2
    rw [show m + 1880 = m + 1879 + 1 by omega, F_X12_either_4]
    simp (disch := omega) only [↓reduceIte, li_0, li_1, li_2, li_3, li_4, li_5, li_6, li_7, li_8, li_9, li_10, li_11, li_12, li_13, li_14, li_15, li_16, li_17, li_18, li_19, li_20, li_21, li_22, li_23, li_24, li_25, li_26, li_27, li_28, li_29, li_30, li_31, li_32, li_33, li_34, li_35, li_36, li_37, li_38, li_39, li_40, li_41, li_42, li_43, li_44, li_45, li_46, li_47, li_48, li_49, li_50, li_51, li_52, li_53, li_54, li_55, li_56, li_57, li_58, li_59, li_60, li_61, li_62, li_63, li_70, li_80, li_81, li_95, li_98, li_99, li_100, li_101, li_102, li_103, li_104, li_105, li_106, li_107, li_108, li_109, li_110, li_111, li_112, li_120, li_122, li_124, li_126, li_130, li_168, li_175, li_200, li_255, li_260, li_360, li_1440, li_12345, li_1000000, li_1103515245, neg_nI, nltT, nltF, neqT, neqF, mlt_n, nlt_m, meq_n, neq_m, meq_mT, meq_mF, mlt_mT, mlt_mF, nI_cl, gd_in, gd_T, Option.bind_some, pI_ne, pI_eq, pI_2, pL_1, pL_ne, pL_eq, pL_22, upEq, upN, aN_at, aN_up, nU_e, nU_n, aAdd_n, aAdd_nm, aSub_p, aSub_n, aSub_mn, aSub_mm, aMul_n, aDiv_n, aRem_n, eq_self_iff_true, h25]
  · have h25 := x.2.1
    have hk := MS_look x ht
    have e1 : tkF tl tp h ≠ 124 := of_decide_eq_false c
    have k1 := lk_eq (tl := tl) hp h 124 (by omega)
    rw [show m + 1880 = m + 1879 + 1 by omega, F_X12_either_4]
    simp (disch := omega) only [↓bE (hk), ↓reduceIte, li_0, li_1, li_2, li_3, li_4, li_5, li_6, li_7, li_8, li_9, li_10, li_11, li_12, li_13, li_14, li_15, li_16, li_17, li_18, li_19, li_20, li_21, li_22, li_23, li_24, li_25, li_26, li_27, li_28, li_29, li_30, li_31, li_32, li_33, li_34, li_35, li_36, li_37, li_38, li_39, li_40, li_41, li_42, li_43, li_44, li_45, li_46, li_47, li_48, li_49, li_50, li_51, li_52, li_53, li_54, li_55, li_56, li_57, li_58, li_59, li_60, li_61, li_62, li_63, li_70, li_80, li_81, li_95, li_98, li_99, li_100, li_101, li_102, li_103, li_104, li_105, li_106, li_107, li_108, li_109, li_110, li_111, li_112, li_120, li_122, li_124, li_126, li_130, li_168, li_175, li_200, li_255, li_260, li_360, li_1440, li_12345, li_1000000, li_1103515245, neg_nI, nltT, nltF, neqT, neqF, mlt_n, nlt_m, meq_n, neq_m, meq_mT, meq_mF, mlt_mT, mlt_mF, nI_cl, gd_in, gd_T, Option.bind_some, pI_ne, pI_eq, pI_2, pL_1, pL_ne, pL_eq, pL_22, upEq, upN, aN_at, aN_up, nU_e, nU_n, aAdd_n, aAdd_nm, aSub_p, aSub_n, aSub_mn, aSub_mm, aMul_n, aDiv_n, aRem_n, eq_self_iff_true, h25, k1, e1]
  · have h25 := x.2.1
    have h24 := x.1
    have hk := MS_look x ht
    have c : tkF tl tp h = 124 := of_decide_eq_true c
    rw [show m + 1 + 1880 = m + 1880 + 1 by omega, F_X12_either_4]
    rw [lk_of hp c (by omega)] at hk
    rw [c]
    simp (disch := omega) only [↓bE (hk), ↓reduceIte, li_0, li_1, li_2, li_3, li_4, li_5, li_6, li_7, li_8, li_9, li_10, li_11, li_12, li_13, li_14, li_15, li_16, li_17, li_18, li_19, li_20, li_21, li_22, li_23, li_24, li_25, li_26, li_27, li_28, li_29, li_30, li_31, li_32, li_33, li_34, li_35, li_36, li_37, li_38, li_39, li_40, li_41, li_42, li_43, li_44, li_45, li_46, li_47, li_48, li_49, li_50, li_51, li_52, li_53, li_54, li_55, li_56, li_57, li_58, li_59, li_60, li_61, li_62, li_63, li_70, li_80, li_81, li_95, li_98, li_99, li_100, li_101, li_102, li_103, li_104, li_105, li_106, li_107, li_108, li_109, li_110, li_111, li_112, li_120, li_122, li_124, li_126, li_130, li_168, li_175, li_200, li_255, li_260, li_360, li_1440, li_12345, li_1000000, li_1103515245, neg_nI, nltT, nltF, neqT, neqF, mlt_n, nlt_m, meq_n, neq_m, meq_mT, meq_mF, mlt_mT, mlt_mF, nI_cl, gd_in, gd_T, Option.bind_some, pI_ne, pI_eq, pI_2, pL_1, pL_ne, pL_eq, pL_22, upEq, upN, aN_at, aN_up, nU_e, nU_n, aAdd_n, aAdd_nm, aSub_p, aSub_n, aSub_mn, aSub_mm, aMul_n, aDiv_n, aRem_n, eq_self_iff_true, h25, h24]
  · have c := c trivial
    have h25 := x.2.1
    have hk := MS_look x ht
    have e0 : tkF tl tp h = 200 := if_neg (by omega)
    have e1 : tkF tl tp h ≠ 124 := by omega
    have k1 := lk_eq (tl := tl) hp h 124 (by omega)
    rw [show 0 + 1880 = 1879 + 1 by omega, F_X12_either_4]
    simp (disch := omega) only [↓bE (hk), ↓reduceIte, li_0, li_1, li_2, li_3, li_4, li_5, li_6, li_7, li_8, li_9, li_10, li_11, li_12, li_13, li_14, li_15, li_16, li_17, li_18, li_19, li_20, li_21, li_22, li_23, li_24, li_25, li_26, li_27, li_28, li_29, li_30, li_31, li_32, li_33, li_34, li_35, li_36, li_37, li_38, li_39, li_40, li_41, li_42, li_43, li_44, li_45, li_46, li_47, li_48, li_49, li_50, li_51, li_52, li_53, li_54, li_55, li_56, li_57, li_58, li_59, li_60, li_61, li_62, li_63, li_70, li_80, li_81, li_95, li_98, li_99, li_100, li_101, li_102, li_103, li_104, li_105, li_106, li_107, li_108, li_109, li_110, li_111, li_112, li_120, li_122, li_124, li_126, li_130, li_168, li_175, li_200, li_255, li_260, li_360, li_1440, li_12345, li_1000000, li_1103515245, neg_nI, nltT, nltF, neqT, neqF, mlt_n, nlt_m, meq_n, neq_m, meq_mT, meq_mF, mlt_mT, mlt_mF, nI_cl, gd_in, gd_T, Option.bind_some, pI_ne, pI_eq, pI_2, pL_1, pL_ne, pL_eq, pL_22, upEq, upN, aN_at, aN_up, nU_e, nU_n, aAdd_n, aAdd_nm, aSub_p, aSub_n, aSub_mn, aSub_mm, aMul_n, aDiv_n, aRem_n, eq_self_iff_true, h25, k1, e1]
theorem g12r_0 (n : Nat) : g_X12R (n + 1) 0 = f_X12_operand (g_X12R n) := rfl
theorem g12r_1 (n : Nat) : g_X12R (n + 1) 1 = f_X12_product (g_X12R n) := rfl
theorem g12r_2 (n : Nat) : g_X12R (n + 1) 2 = f_X12_sum (g_X12R n) := rfl
theorem g12r_3 (n : Nat) : g_X12R (n + 1) 3 = f_X12_compared (g_X12R n) := rfl
theorem g12r_4 (n : Nat) : g_X12R (n + 1) 4 = f_X12_both (g_X12R n) := rfl
theorem g12r_5 (n : Nat) : g_X12R (n + 1) 5 = f_X12_either (g_X12R n) := rfl
theorem m_ei {tl : Nat} {tp : Nat → Nat} {o n : Nat} {X : Nat → Rs} (ht : tl ≤ 120) (hp : ∀ k, tp k ≤ 255) (hX : MIr tl tp o (g_X12R n 0) X) (pX : PX (tkF tl tp) X) : MIr tl tp o (g_X12R (n + 5) 5) (eiS (tkF tl tp) X) := by
  have p4 := PX_lvS (lev := 4) pX
  have p3 := PX_lvS (lev := 3) p4
  have p2 := PX_lvS (lev := 2) p3
  have p1 := PX_lvS (lev := 1) p2
  have h4 : MIr tl tp o (g_X12R (n + 1) 1) (lvS (tkF tl tp) 4 X) := by rw [g12r_1]; exact m_lev4 ht hp hX pX
  have h3 : MIr tl tp o (g_X12R (n + 2) 2) (lvS (tkF tl tp) 3 (lvS (tkF tl tp) 4 X)) := by rw [g12r_2]; exact m_lev3 ht hp h4 p4
  have h2 : MIr tl tp o (g_X12R (n + 3) 3) (lvS (tkF tl tp) 2 (lvS (tkF tl tp) 3 (lvS (tkF tl tp) 4 X))) := by rw [g12r_3]; exact m_lev2 ht hp h3 p3
  have h1 : MIr tl tp o (g_X12R (n + 4) 4) (lvS (tkF tl tp) 1 (lvS (tkF tl tp) 2 (lvS (tkF tl tp) 3 (lvS (tkF tl tp) 4 X)))) := by rw [g12r_4]; exact m_lev1 ht hp h2 p2
  rw [g12r_5]
  exact m_lev0 ht hp h1 p1
