/-! parts of wholes -/
theorem mod_half {x y : Nat} (hy : 0 < y) (hx : y ≤ x) : 2 * (x % y) < x := by
  have h1 := Nat.mod_lt x hy
  have h2 := Nat.div_add_mod x y
  have h3 : 1 ≤ x / y := Nat.div_pos hx hy
  have h4 : y * 1 ≤ y * (x / y) := Nat.mul_le_mul_left y h3
  omega
theorem gcd_st {x y : Nat} : Nat.gcd y (x % y) = Nat.gcd x y := by
  rw [Nat.gcd_comm, ← Nat.gcd_rec, Nat.gcd_comm]
theorem lRem_n {a b : Nat} (ha : a < 9223372036854775808) (h0 : 0 < b) (hb : b < 9223372036854775808) : lRem (lN a) (lN b) = lN (a % b) := by rw [lRem_eq, pk_lRem ha h0 hb]
theorem lDiv_n {a b : Nat} (ha : a < 9223372036854775808) (h0 : 0 < b) (hb : b < 9223372036854775808) : lDiv (lN a) (lN b) = lN (a / b) := by rw [lDiv_eq, pk_lDiv ha h0 hb]
theorem leqF {a b : Nat} (h : a ≠ b) (ha : a < 9223372036854775808) (hb : b < 9223372036854775808) : (lN a = lN b) = False := eq_false fun e => h ((pk_lEQ ha hb).mp e)
theorem lcmp_gt {a b : Nat} (h : b < a) (ha : a < 9223372036854775808) : lCmp (lN a) (lN b) = nI 1 := by rw [lCmp_n ha (by omega), if_pos h]
theorem lcmp_eq {a b : Nat} (h : a = b) (ha : a < 9223372036854775808) : lCmp (lN a) (lN b) = nI 0 := by rw [lCmp_n ha (by omega), if_neg (by omega), if_pos h]
theorem lcmp_lt {a b : Nat} (h : a < b) (hb : b < 9223372036854775808) : lCmp (lN a) (lN b) = mI 1 := by rw [lCmp_n (by omega) hb, if_neg (by omega), if_neg (by omega)]
theorem c_gcd (s : SS) : ∀ k n x y st, y < 2 ^ k → x < 9223372036854775808 → y < 9223372036854775808 → st + 2 * k ≤ 198 → 2 * k < n → F_X11_commonDivisor_9 n (lN x) (lN y) (nI st) s = some (lN (Nat.gcd x y), s) := by
  intro k
  induction k with
  | zero =>
    intro n x y st hy hx hy2 hst hn
    obtain ⟨n, rfl⟩ : ∃ n', n = n' + 1 := ⟨n - 1, by omega⟩
    have e : y = 0 := by rw [Nat.pow_zero] at hy; omega
    subst e
    rw [F_X11_commonDivisor_9, Nat.gcd_zero_right]
    simp (disch := omega) only [↓reduceIte, li_0, li_1, li_2, li_3, li_4, li_5, li_6, li_7, li_8, li_9, li_10, li_11, li_12, li_13, li_14, li_15, li_16, li_17, li_18, li_19, li_20, li_21, li_22, li_23, li_24, li_25, li_26, li_27, li_28, li_29, li_30, li_31, li_32, li_33, li_34, li_35, li_36, li_37, li_38, li_39, li_40, li_41, li_42, li_43, li_44, li_45, li_46, li_47, li_48, li_49, li_50, li_51, li_52, li_53, li_54, li_55, li_56, li_57, li_58, li_59, li_60, li_61, li_62, li_63, li_70, li_80, li_81, li_95, li_98, li_99, li_100, li_101, li_102, li_103, li_104, li_105, li_106, li_107, li_108, li_109, li_110, li_111, li_112, li_120, li_122, li_124, li_126, li_130, li_168, li_175, li_200, li_255, li_260, li_360, li_1440, li_12345, li_1000000, li_1103515245, neg_nI, nltT, nltF, neqT, neqF, mlt_n, nlt_m, meq_n, neq_m, meq_mT, meq_mF, mlt_mT, mlt_mF, nI_cl, gd_in, gd_T, Option.bind_some, pI_ne, pI_eq, pI_2, pL_1, pL_ne, pL_eq, pL_22, upEq, upN, aN_at, aN_up, nU_e, nU_n, aAdd_n, aAdd_nm, aSub_p, aSub_n, aSub_mn, aSub_mm, aMul_n, aDiv_n, aRem_n, eq_self_iff_true, ll_0, lcmp_eq]
  | succ k ih =>
    intro n x y st hy hx hy2 hst hn
    obtain ⟨n, rfl⟩ : ∃ n', n = n' + 2 := ⟨n - 2, by omega⟩
    rw [F_X11_commonDivisor_9]
    rcases Nat.eq_zero_or_pos y with e | e
    · subst e
      rw [Nat.gcd_zero_right]
      simp (disch := omega) only [↓reduceIte, li_0, li_1, li_2, li_3, li_4, li_5, li_6, li_7, li_8, li_9, li_10, li_11, li_12, li_13, li_14, li_15, li_16, li_17, li_18, li_19, li_20, li_21, li_22, li_23, li_24, li_25, li_26, li_27, li_28, li_29, li_30, li_31, li_32, li_33, li_34, li_35, li_36, li_37, li_38, li_39, li_40, li_41, li_42, li_43, li_44, li_45, li_46, li_47, li_48, li_49, li_50, li_51, li_52, li_53, li_54, li_55, li_56, li_57, li_58, li_59, li_60, li_61, li_62, li_63, li_70, li_80, li_81, li_95, li_98, li_99, li_100, li_101, li_102, li_103, li_104, li_105, li_106, li_107, li_108, li_109, li_110, li_111, li_112, li_120, li_122, li_124, li_126, li_130, li_168, li_175, li_200, li_255, li_260, li_360, li_1440, li_12345, li_1000000, li_1103515245, neg_nI, nltT, nltF, neqT, neqF, mlt_n, nlt_m, meq_n, neq_m, meq_mT, meq_mF, mlt_mT, mlt_mF, nI_cl, gd_in, gd_T, Option.bind_some, pI_ne, pI_eq, pI_2, pL_1, pL_ne, pL_eq, pL_22, upEq, upN, aN_at, aN_up, nU_e, nU_n, aAdd_n, aAdd_nm, aSub_p, aSub_n, aSub_mn, aSub_mm, aMul_n, aDiv_n, aRem_n, eq_self_iff_true, ll_0, lcmp_eq]
    · have r1 := Nat.mod_lt x e
      simp (disch := omega) only [↓reduceIte, li_0, li_1, li_2, li_3, li_4, li_5, li_6, li_7, li_8, li_9, li_10, li_11, li_12, li_13, li_14, li_15, li_16, li_17, li_18, li_19, li_20, li_21, li_22, li_23, li_24, li_25, li_26, li_27, li_28, li_29, li_30, li_31, li_32, li_33, li_34, li_35, li_36, li_37, li_38, li_39, li_40, li_41, li_42, li_43, li_44, li_45, li_46, li_47, li_48, li_49, li_50, li_51, li_52, li_53, li_54, li_55, li_56, li_57, li_58, li_59, li_60, li_61, li_62, li_63, li_70, li_80, li_81, li_95, li_98, li_99, li_100, li_101, li_102, li_103, li_104, li_105, li_106, li_107, li_108, li_109, li_110, li_111, li_112, li_120, li_122, li_124, li_126, li_130, li_168, li_175, li_200, li_255, li_260, li_360, li_1440, li_12345, li_1000000, li_1103515245, neg_nI, nltT, nltF, neqT, neqF, mlt_n, nlt_m, meq_n, neq_m, meq_mT, meq_mF, mlt_mT, mlt_mF, nI_cl, gd_in, gd_T, Option.bind_some, pI_ne, pI_eq, pI_2, pL_1, pL_ne, pL_eq, pL_22, upEq, upN, aN_at, aN_up, nU_e, nU_n, aAdd_n, aAdd_nm, aSub_p, aSub_n, aSub_mn, aSub_mm, aMul_n, aDiv_n, aRem_n, eq_self_iff_true, ll_0, lcmp_gt, leqF, lRem_n]
      rw [F_X11_commonDivisor_9, ← gcd_st]
      rcases Nat.eq_zero_or_pos (x % y) with e2 | e2
      · rw [e2, Nat.gcd_zero_right]
        simp (disch := omega) only [↓reduceIte, li_0, li_1, li_2, li_3, li_4, li_5, li_6, li_7, li_8, li_9, li_10, li_11, li_12, li_13, li_14, li_15, li_16, li_17, li_18, li_19, li_20, li_21, li_22, li_23, li_24, li_25, li_26, li_27, li_28, li_29, li_30, li_31, li_32, li_33, li_34, li_35, li_36, li_37, li_38, li_39, li_40, li_41, li_42, li_43, li_44, li_45, li_46, li_47, li_48, li_49, li_50, li_51, li_52, li_53, li_54, li_55, li_56, li_57, li_58, li_59, li_60, li_61, li_62, li_63, li_70, li_80, li_81, li_95, li_98, li_99, li_100, li_101, li_102, li_103, li_104, li_105, li_106, li_107, li_108, li_109, li_110, li_111, li_112, li_120, li_122, li_124, li_126, li_130, li_168, li_175, li_200, li_255, li_260, li_360, li_1440, li_12345, li_1000000, li_1103515245, neg_nI, nltT, nltF, neqT, neqF, mlt_n, nlt_m, meq_n, neq_m, meq_mT, meq_mF, mlt_mT, mlt_mF, nI_cl, gd_in, gd_T, Option.bind_some, pI_ne, pI_eq, pI_2, pL_1, pL_ne, pL_eq, pL_22, upEq, upN, aN_at, aN_up, nU_e, nU_n, aAdd_n, aAdd_nm, aSub_p, aSub_n, aSub_mn, aSub_mm, aMul_n, aDiv_n, aRem_n, eq_self_iff_true, ll_0, lcmp_eq]
      · have r2 := mod_half e2 (Nat.le_of_lt r1)
        have r3 : y % (x % y) < 2 ^ k := by rw [Nat.pow_succ] at hy; omega
        simp (disch := omega) only [↓reduceIte, li_0, li_1, li_2, li_3, li_4, li_5, li_6, li_7, li_8, li_9, li_10, li_11, li_12, li_13, li_14, li_15, li_16, li_17, li_18, li_19, li_20, li_21, li_22, li_23, li_24, li_25, li_26, li_27, li_28, li_29, li_30, li_31, li_32, li_33, li_34, li_35, li_36, li_37, li_38, li_39, li_40, li_41, li_42, li_43, li_44, li_45, li_46, li_47, li_48, li_49, li_50, li_51, li_52, li_53, li_54, li_55, li_56, li_57, li_58, li_59, li_60, li_61, li_62, li_63, li_70, li_80, li_81, li_95, li_98, li_99, li_100, li_101, li_102, li_103, li_104, li_105, li_106, li_107, li_108, li_109, li_110, li_111, li_112, li_120, li_122, li_124, li_126, li_130, li_168, li_175, li_200, li_255, li_260, li_360, li_1440, li_12345, li_1000000, li_1103515245, neg_nI, nltT, nltF, neqT, neqF, mlt_n, nlt_m, meq_n, neq_m, meq_mT, meq_mF, mlt_mT, mlt_mF, nI_cl, gd_in, gd_T, Option.bind_some, pI_ne, pI_eq, pI_2, pL_1, pL_ne, pL_eq, pL_22, upEq, upN, aN_at, aN_up, nU_e, nU_n, aAdd_n, aAdd_nm, aSub_p, aSub_n, aSub_mn, aSub_mm, aMul_n, aDiv_n, aRem_n, eq_self_iff_true, ll_0, lcmp_gt, leqF, lRem_n]
        rw [ih n (x % y) (y % (x % y)) (st + 1 + 1) r3 (by omega) (by omega) (by omega) (by omega), gcd_st]
theorem m_gcd (s : SS) : ∀ k n x y, y < 2 ^ k → x < 9223372036854775808 → y < 9223372036854775808 → 2 * k < n → F_X12_common_6 n (lN x) (lN y) s = some (lN (Nat.gcd x y), s) := by
  intro k
  induction k with
  | zero =>
    intro n x y hy hx hy2 hn
    obtain ⟨n, rfl⟩ : ∃ n', n = n' + 1 := ⟨n - 1, by omega⟩
    have e : y = 0 := by rw [Nat.pow_zero] at hy; omega
    subst e
    rw [F_X12_common_6, Nat.gcd_zero_right]
    simp (disch := omega) only [↓reduceIte, li_0, li_1, li_2, li_3, li_4, li_5, li_6, li_7, li_8, li_9, li_10, li_11, li_12, li_13, li_14, li_15, li_16, li_17, li_18, li_19, li_20, li_21, li_22, li_23, li_24, li_25, li_26, li_27, li_28, li_29, li_30, li_31, li_32, li_33, li_34, li_35, li_36, li_37, li_38, li_39, li_40, li_41, li_42, li_43, li_44, li_45, li_46, li_47, li_48, li_49, li_50, li_51, li_52, li_53, li_54, li_55, li_56, li_57, li_58, li_59, li_60, li_61, li_62, li_63, li_70, li_80, li_81, li_95, li_98, li_99, li_100, li_101, li_102, li_103, li_104, li_105, li_106, li_107, li_108, li_109, li_110, li_111, li_112, li_120, li_122, li_124, li_126, li_130, li_168, li_175, li_200, li_255, li_260, li_360, li_1440, li_12345, li_1000000, li_1103515245, neg_nI, nltT, nltF, neqT, neqF, mlt_n, nlt_m, meq_n, neq_m, meq_mT, meq_mF, mlt_mT, mlt_mF, nI_cl, gd_in, gd_T, Option.bind_some, pI_ne, pI_eq, pI_2, pL_1, pL_ne, pL_eq, pL_22, upEq, upN, aN_at, aN_up, nU_e, nU_n, aAdd_n, aAdd_nm, aSub_p, aSub_n, aSub_mn, aSub_mm, aMul_n, aDiv_n, aRem_n, eq_self_iff_true, ll_0, lcmp_eq]
  | succ k ih =>
    intro n x y hy hx hy2 hn
    obtain ⟨n, rfl⟩ : ∃ n', n = n' + 2 := ⟨n - 2, by omega⟩
    rw [F_X12_common_6]
    rcases Nat.eq_zero_or_pos y with e | e
    · subst e
      rw [Nat.gcd_zero_right]
      simp (disch := omega) only [↓reduceIte, li_0, li_1, li_2, li_3, li_4, li_5, li_6, li_7, li_8, li_9, li_10, li_11, li_12, li_13, li_14, li_15, li_16, li_17, li_18, li_19, li_20, li_21, li_22, li_23, li_24, li_25, li_26, li_27, li_28, li_29, li_30, li_31, li_32, li_33, li_34, li_35, li_36, li_37, li_38, li_39, li_40, li_41, li_42, li_43, li_44, li_45, li_46, li_47, li_48, li_49, li_50, li_51, li_52, li_53, li_54, li_55, li_56, li_57, li_58, li_59, li_60, li_61, li_62, li_63, li_70, li_80, li_81, li_95, li_98, li_99, li_100, li_101, li_102, li_103, li_104, li_105, li_106, li_107, li_108, li_109, li_110, li_111, li_112, li_120, li_122, li_124, li_126, li_130, li_168, li_175, li_200, li_255, li_260, li_360, li_1440, li_12345, li_1000000, li_1103515245, neg_nI, nltT, nltF, neqT, neqF, mlt_n, nlt_m, meq_n, neq_m, meq_mT, meq_mF, mlt_mT, mlt_mF, nI_cl, gd_in, gd_T, Option.bind_some, pI_ne, pI_eq, pI_2, pL_1, pL_ne, pL_eq, pL_22, upEq, upN, aN_at, aN_up, nU_e, nU_n, aAdd_n, aAdd_nm, aSub_p, aSub_n, aSub_mn, aSub_mm, aMul_n, aDiv_n, aRem_n, eq_self_iff_true, ll_0, lcmp_eq]
    · have r1 := Nat.mod_lt x e
      simp (disch := omega) only [↓reduceIte, li_0, li_1, li_2, li_3, li_4, li_5, li_6, li_7, li_8, li_9, li_10, li_11, li_12, li_13, li_14, li_15, li_16, li_17, li_18, li_19, li_20, li_21, li_22, li_23, li_24, li_25, li_26, li_27, li_28, li_29, li_30, li_31, li_32, li_33, li_34, li_35, li_36, li_37, li_38, li_39, li_40, li_41, li_42, li_43, li_44, li_45, li_46, li_47, li_48, li_49, li_50, li_51, li_52, li_53, li_54, li_55, li_56, li_57, li_58, li_59, li_60, li_61, li_62, li_63, li_70, li_80, li_81, li_95, li_98, li_99, li_100, li_101, li_102, li_103, li_104, li_105, li_106, li_107, li_108, li_109, li_110, li_111, li_112, li_120, li_122, li_124, li_126, li_130, li_168, li_175, li_200, li_255, li_260, li_360, li_1440, li_12345, li_1000000, li_1103515245, neg_nI, nltT, nltF, neqT, neqF, mlt_n, nlt_m, meq_n, neq_m, meq_mT, meq_mF, mlt_mT, mlt_mF, nI_cl, gd_in, gd_T, Option.bind_some, pI_ne, pI_eq, pI_2, pL_1, pL_ne, pL_eq, pL_22, upEq, upN, aN_at, aN_up, nU_e, nU_n, aAdd_n, aAdd_nm, aSub_p, aSub_n, aSub_mn, aSub_mm, aMul_n, aDiv_n, aRem_n, eq_self_iff_true, ll_0, lcmp_gt, leqF, lRem_n]
      rw [F_X12_common_6, ← gcd_st]
      rcases Nat.eq_zero_or_pos (x % y) with e2 | e2
      · rw [e2, Nat.gcd_zero_right]
        simp (disch := omega) only [↓reduceIte, li_0, li_1, li_2, li_3, li_4, li_5, li_6, li_7, li_8, li_9, li_10, li_11, li_12, li_13, li_14, li_15, li_16, li_17, li_18, li_19, li_20, li_21, li_22, li_23, li_24, li_25, li_26, li_27, li_28, li_29, li_30, li_31, li_32, li_33, li_34, li_35, li_36, li_37, li_38, li_39, li_40, li_41, li_42, li_43, li_44, li_45, li_46, li_47, li_48, li_49, li_50, li_51, li_52, li_53, li_54, li_55, li_56, li_57, li_58, li_59, li_60, li_61, li_62, li_63, li_70, li_80, li_81, li_95, li_98, li_99, li_100, li_101, li_102, li_103, li_104, li_105, li_106, li_107, li_108, li_109, li_110, li_111, li_112, li_120, li_122, li_124, li_126, li_130, li_168, li_175, li_200, li_255, li_260, li_360, li_1440, li_12345, li_1000000, li_1103515245, neg_nI, nltT, nltF, neqT, neqF, mlt_n, nlt_m, meq_n, neq_m, meq_mT, meq_mF, mlt_mT, mlt_mF, nI_cl, gd_in, gd_T, Option.bind_some, pI_ne, pI_eq, pI_2, pL_1, pL_ne, pL_eq, pL_22, upEq, upN, aN_at, aN_up, nU_e, nU_n, aAdd_n, aAdd_nm, aSub_p, aSub_n, aSub_mn, aSub_mm, aMul_n, aDiv_n, aRem_n, eq_self_iff_true, ll_0, lcmp_eq]
      · have r2 := mod_half e2 (Nat.le_of_lt r1)
        have r3 : y % (x % y) < 2 ^ k := by rw [Nat.pow_succ] at hy; omega
        simp (disch := omega) only [↓reduceIte, li_0, li_1, li_2, li_3, li_4, li_5, li_6, li_7, li_8, li_9, li_10, li_11, li_12, li_13, li_14, li_15, li_16, li_17, li_18, li_19, li_20, li_21, li_22, li_23, li_24, li_25, li_26, li_27, li_28, li_29, li_30, li_31, li_32, li_33, li_34, li_35, li_36, li_37, li_38, li_39, li_40, li_41, li_42, li_43, li_44, li_45, li_46, li_47, li_48, li_49, li_50, li_51, li_52, li_53, li_54, li_55, li_56, li_57, li_58, li_59, li_60, li_61, li_62, li_63, li_70, li_80, li_81, li_95, li_98, li_99, li_100, li_101, li_102, li_103, li_104, li_105, li_106, li_107, li_108, li_109, li_110, li_111, li_112, li_120, li_122, li_124, li_126, li_130, li_168, li_175, li_200, li_255, li_260, li_360, li_1440, li_12345, li_1000000, li_1103515245, neg_nI, nltT, nltF, neqT, neqF, mlt_n, nlt_m, meq_n, neq_m, meq_mT, meq_mF, mlt_mT, mlt_mF, nI_cl, gd_in, gd_T, Option.bind_some, pI_ne, pI_eq, pI_2, pL_1, pL_ne, pL_eq, pL_22, upEq, upN, aN_at, aN_up, nU_e, nU_n, aAdd_n, aAdd_nm, aSub_p, aSub_n, aSub_mn, aSub_mm, aMul_n, aDiv_n, aRem_n, eq_self_iff_true, ll_0, lcmp_gt, leqF, lRem_n]
        rw [ih n (x % y) (y % (x % y)) r3 (by omega) (by omega) (by omega), gcd_st]
def ptF (a b part : Nat) : Nat := if part = 0 then a / Nat.gcd a b else b / Nat.gcd a b
theorem c_partOf {a b part : Nat} (s : SS) (ha : a < 1000000000000000) (hb : b < 10000000000000) (hb0 : 0 < b) (hp : part ≤ 1) : f_X11_partOf (lN a) (lN b) (nI part) s = some (lN (ptF a b part), s) := by
  unfold f_X11_partOf f_X11_commonDivisor ptF
  have e := c_gcd s 44 fuel0 a b 0 (by omega) (by omega) (by omega) (by omega) (by rw [fuel0_eq]; omega)
  have g0 : 0 < Nat.gcd a b := Nat.gcd_pos_of_pos_right a hb0
  have g1 : Nat.gcd a b ≤ b := Nat.gcd_le_right a hb0
  rcases Nat.eq_zero_or_pos part with c | c
  · subst c
    simp (disch := omega) only [↓reduceIte, li_0, li_1, li_2, li_3, li_4, li_5, li_6, li_7, li_8, li_9, li_10, li_11, li_12, li_13, li_14, li_15, li_16, li_17, li_18, li_19, li_20, li_21, li_22, li_23, li_24, li_25, li_26, li_27, li_28, li_29, li_30, li_31, li_32, li_33, li_34, li_35, li_36, li_37, li_38, li_39, li_40, li_41, li_42, li_43, li_44, li_45, li_46, li_47, li_48, li_49, li_50, li_51, li_52, li_53, li_54, li_55, li_56, li_57, li_58, li_59, li_60, li_61, li_62, li_63, li_70, li_80, li_81, li_95, li_98, li_99, li_100, li_101, li_102, li_103, li_104, li_105, li_106, li_107, li_108, li_109, li_110, li_111, li_112, li_120, li_122, li_124, li_126, li_130, li_168, li_175, li_200, li_255, li_260, li_360, li_1440, li_12345, li_1000000, li_1103515245, neg_nI, nltT, nltF, neqT, neqF, mlt_n, nlt_m, meq_n, neq_m, meq_mT, meq_mF, mlt_mT, mlt_mF, nI_cl, gd_in, gd_T, Option.bind_some, pI_ne, pI_eq, pI_2, pL_1, pL_ne, pL_eq, pL_22, upEq, upN, aN_at, aN_up, nU_e, nU_n, aAdd_n, aAdd_nm, aSub_p, aSub_n, aSub_mn, aSub_mm, aMul_n, aDiv_n, aRem_n, eq_self_iff_true, ll_0, e, lcmp_gt, leqF, lDiv_n]
  · simp (disch := omega) only [↓reduceIte, li_0, li_1, li_2, li_3, li_4, li_5, li_6, li_7, li_8, li_9, li_10, li_11, li_12, li_13, li_14, li_15, li_16, li_17, li_18, li_19, li_20, li_21, li_22, li_23, li_24, li_25, li_26, li_27, li_28, li_29, li_30, li_31, li_32, li_33, li_34, li_35, li_36, li_37, li_38, li_39, li_40, li_41, li_42, li_43, li_44, li_45, li_46, li_47, li_48, li_49, li_50, li_51, li_52, li_53, li_54, li_55, li_56, li_57, li_58, li_59, li_60, li_61, li_62, li_63, li_70, li_80, li_81, li_95, li_98, li_99, li_100, li_101, li_102, li_103, li_104, li_105, li_106, li_107, li_108, li_109, li_110, li_111, li_112, li_120, li_122, li_124, li_126, li_130, li_168, li_175, li_200, li_255, li_260, li_360, li_1440, li_12345, li_1000000, li_1103515245, neg_nI, nltT, nltF, neqT, neqF, mlt_n, nlt_m, meq_n, neq_m, meq_mT, meq_mF, mlt_mT, mlt_mF, nI_cl, gd_in, gd_T, Option.bind_some, pI_ne, pI_eq, pI_2, pL_1, pL_ne, pL_eq, pL_22, upEq, upN, aN_at, aN_up, nU_e, nU_n, aAdd_n, aAdd_nm, aSub_p, aSub_n, aSub_mn, aSub_mm, aMul_n, aDiv_n, aRem_n, eq_self_iff_true, ll_0, e, lcmp_gt, leqF, lDiv_n]
    rw [if_neg (by omega)]
theorem m_be {s : SS} {P y : Nat} (h0 : s.1 74 11 = nI P) (hP : P ≤ 6) (hy : y ≤ 2) : ∀ m i n v, i + m = y * P → m < n → F_X12_below_5 n (nI y) (lN v) (nI i) s = some (lN (v * 12 ^ m), s) := by
  have hyP : y * P ≤ 12 := Nat.le_trans (Nat.mul_le_mul hy hP) (by omega)
  intro m
  induction m with
  | zero =>
    intro i n v e hn
    obtain ⟨n, rfl⟩ : ∃ n', n = n' + 1 := ⟨n - 1, by omega⟩
    rw [F_X12_below_5]
    simp (disch := omega) only [↓reduceIte, li_0, li_1, li_2, li_3, li_4, li_5, li_6, li_7, li_8, li_9, li_10, li_11, li_12, li_13, li_14, li_15, li_16, li_17, li_18, li_19, li_20, li_21, li_22, li_23, li_24, li_25, li_26, li_27, li_28, li_29, li_30, li_31, li_32, li_33, li_34, li_35, li_36, li_37, li_38, li_39, li_40, li_41, li_42, li_43, li_44, li_45, li_46, li_47, li_48, li_49, li_50, li_51, li_52, li_53, li_54, li_55, li_56, li_57, li_58, li_59, li_60, li_61, li_62, li_63, li_70, li_80, li_81, li_95, li_98, li_99, li_100, li_101, li_102, li_103, li_104, li_105, li_106, li_107, li_108, li_109, li_110, li_111, li_112, li_120, li_122, li_124, li_126, li_130, li_168, li_175, li_200, li_255, li_260, li_360, li_1440, li_12345, li_1000000, li_1103515245, neg_nI, nltT, nltF, neqT, neqF, mlt_n, nlt_m, meq_n, neq_m, meq_mT, meq_mF, mlt_mT, mlt_mF, nI_cl, gd_in, gd_T, Option.bind_some, pI_ne, pI_eq, pI_2, pL_1, pL_ne, pL_eq, pL_22, upEq, upN, aN_at, aN_up, nU_e, nU_n, aAdd_n, aAdd_nm, aSub_p, aSub_n, aSub_mn, aSub_mm, aMul_n, aDiv_n, aRem_n, eq_self_iff_true, h0]
    rw [Nat.pow_zero, Nat.mul_one]
  | succ m ih =>
    intro i n v e hn
    obtain ⟨n, rfl⟩ : ∃ n', n = n' + 1 := ⟨n - 1, by omega⟩
    rw [F_X12_below_5]
    simp (disch := omega) only [↓reduceIte, li_0, li_1, li_2, li_3, li_4, li_5, li_6, li_7, li_8, li_9, li_10, li_11, li_12, li_13, li_14, li_15, li_16, li_17, li_18, li_19, li_20, li_21, li_22, li_23, li_24, li_25, li_26, li_27, li_28, li_29, li_30, li_31, li_32, li_33, li_34, li_35, li_36, li_37, li_38, li_39, li_40, li_41, li_42, li_43, li_44, li_45, li_46, li_47, li_48, li_49, li_50, li_51, li_52, li_53, li_54, li_55, li_56, li_57, li_58, li_59, li_60, li_61, li_62, li_63, li_70, li_80, li_81, li_95, li_98, li_99, li_100, li_101, li_102, li_103, li_104, li_105, li_106, li_107, li_108, li_109, li_110, li_111, li_112, li_120, li_122, li_124, li_126, li_130, li_168, li_175, li_200, li_255, li_260, li_360, li_1440, li_12345, li_1000000, li_1103515245, neg_nI, nltT, nltF, neqT, neqF, mlt_n, nlt_m, meq_n, neq_m, meq_mT, meq_mF, mlt_mT, mlt_mF, nI_cl, gd_in, gd_T, Option.bind_some, pI_ne, pI_eq, pI_2, pL_1, pL_ne, pL_eq, pL_22, upEq, upN, aN_at, aN_up, nU_e, nU_n, aAdd_n, aAdd_nm, aSub_p, aSub_n, aSub_mn, aSub_mm, aMul_n, aDiv_n, aRem_n, eq_self_iff_true, h0, ll_12, l_mul]
    rw [ih (i + 1) n (v * 12) (by omega) (by omega), Nat.mul_assoc, Nat.pow_succ, Nat.mul_comm 12]
theorem m_below {s : SS} {P y : Nat} (h0 : s.1 74 11 = nI P) (hP : P ≤ 6) (hy : y ≤ 2) : f_X12_below (nI y) s = some (lN (12 ^ (y * P)), s) := by
  have hyP : y * P ≤ 12 := Nat.le_trans (Nat.mul_le_mul hy hP) (by omega)
  have := m_be h0 hP hy (y * P) 0 fuel0 1 (by omega) (by rw [fuel0_eq]; omega)
  rw [Nat.one_mul] at this
  exact this
theorem pow_b {P y : Nat} (hP : P ≤ 6) (hy : y ≤ 2) : 12 ^ (y * P) < 10000000000000 := by
  have hyP : y * P ≤ 12 := Nat.le_trans (Nat.mul_le_mul hy hP) (by omega)
  exact Nat.lt_of_le_of_lt (Nat.pow_le_pow_right (by omega) hyP) (by decide)
theorem m_asPart {s : SS} {P y a part : Nat} (h0 : s.1 74 11 = nI P) (hP : P ≤ 6) (hy : y ≤ 2) (ha : a < 1000000000000000) (hp : part ≤ 1) : f_X12_asPart (lN a) (nI y) (nI part) s = some (lN (ptF a (12 ^ (y * P)) part), s) := by
  have hb := pow_b hP hy
  have hb0 : 0 < 12 ^ (y * P) := Nat.pow_pos (by omega)
  unfold f_X12_asPart f_X12_common ptF
  have eb := m_below h0 hP hy
  generalize 12 ^ (y * P) = b at *
  have e := m_gcd s 44 fuel0 a b (by omega) (by omega) (by omega) (by rw [fuel0_eq]; omega)
  have g0 : 0 < Nat.gcd a b := Nat.gcd_pos_of_pos_right a hb0
  have g1 : Nat.gcd a b ≤ b := Nat.gcd_le_right a hb0
  rcases Nat.eq_zero_or_pos part with c | c
  · subst c
    simp (disch := omega) only [↓reduceIte, li_0, li_1, li_2, li_3, li_4, li_5, li_6, li_7, li_8, li_9, li_10, li_11, li_12, li_13, li_14, li_15, li_16, li_17, li_18, li_19, li_20, li_21, li_22, li_23, li_24, li_25, li_26, li_27, li_28, li_29, li_30, li_31, li_32, li_33, li_34, li_35, li_36, li_37, li_38, li_39, li_40, li_41, li_42, li_43, li_44, li_45, li_46, li_47, li_48, li_49, li_50, li_51, li_52, li_53, li_54, li_55, li_56, li_57, li_58, li_59, li_60, li_61, li_62, li_63, li_70, li_80, li_81, li_95, li_98, li_99, li_100, li_101, li_102, li_103, li_104, li_105, li_106, li_107, li_108, li_109, li_110, li_111, li_112, li_120, li_122, li_124, li_126, li_130, li_168, li_175, li_200, li_255, li_260, li_360, li_1440, li_12345, li_1000000, li_1103515245, neg_nI, nltT, nltF, neqT, neqF, mlt_n, nlt_m, meq_n, neq_m, meq_mT, meq_mF, mlt_mT, mlt_mF, nI_cl, gd_in, gd_T, Option.bind_some, pI_ne, pI_eq, pI_2, pL_1, pL_ne, pL_eq, pL_22, upEq, upN, aN_at, aN_up, nU_e, nU_n, aAdd_n, aAdd_nm, aSub_p, aSub_n, aSub_mn, aSub_mm, aMul_n, aDiv_n, aRem_n, eq_self_iff_true, ll_0, eb, e, lcmp_gt, leqF, lDiv_n]
  · simp (disch := omega) only [↓reduceIte, li_0, li_1, li_2, li_3, li_4, li_5, li_6, li_7, li_8, li_9, li_10, li_11, li_12, li_13, li_14, li_15, li_16, li_17, li_18, li_19, li_20, li_21, li_22, li_23, li_24, li_25, li_26, li_27, li_28, li_29, li_30, li_31, li_32, li_33, li_34, li_35, li_36, li_37, li_38, li_39, li_40, li_41, li_42, li_43, li_44, li_45, li_46, li_47, li_48, li_49, li_50, li_51, li_52, li_53, li_54, li_55, li_56, li_57, li_58, li_59, li_60, li_61, li_62, li_63, li_70, li_80, li_81, li_95, li_98, li_99, li_100, li_101, li_102, li_103, li_104, li_105, li_106, li_107, li_108, li_109, li_110, li_111, li_112, li_120, li_122, li_124, li_126, li_130, li_168, li_175, li_200, li_255, li_260, li_360, li_1440, li_12345, li_1000000, li_1103515245, neg_nI, nltT, nltF, neqT, neqF, mlt_n, nlt_m, meq_n, neq_m, meq_mT, meq_mF, mlt_mT, mlt_mF, nI_cl, gd_in, gd_T, Option.bind_some, pI_ne, pI_eq, pI_2, pL_1, pL_ne, pL_eq, pL_22, upEq, upN, aN_at, aN_up, nU_e, nU_n, aAdd_n, aAdd_nm, aSub_p, aSub_n, aSub_mn, aSub_mm, aMul_n, aDiv_n, aRem_n, eq_self_iff_true, ll_0, eb, e, lcmp_gt, leqF, lDiv_n]
    rw [if_neg (by omega)]
theorem sp_le {G : Wd} {A : Nat → Nat} {hr K : Nat} {k : PH → Nat → Nat × Nat} (hA : AOK G A) (hk : ∀ q w B, GD G q B → (k q w).1 ≤ w * K ∧ (k q w).2 ≤ 9 * (w * K)) : ∀ m p q w B, p + m = G.P → GD G q B → (spP k G A hr m p q w).1 ≤ w * (12 ^ m * K) ∧ (spP k G A hr m p q w).2 ≤ 9 * (w * (12 ^ m * K)) := by
  intro m
  induction m with
  | zero =>
    intro p q w B _ hG
    rw [Nat.pow_zero, Nat.one_mul]
    exact hk q w B hG
  | succ m ih =>
    intro p q w B e hG
    rw [spP]
    have n12 := nuF_le G A p (A p) hr (G.br p) (q.1 p)
    have nz : 0 < nuF G A p (A p) hr (G.br p) (q.1 p) → q.1 p ≠ 0 := by
      intro h h0
      unfold nuF at h
      rw [if_pos h0] at h
      omega
    generalize nuF G A p (A p) hr (G.br p) (q.1 p) = nu at *
    have e1 : w * (12 ^ (m + 1) * K) = w * (12 - nu) * (12 ^ m * K) + w * nu * (12 ^ m * K) := by
      rw [pw12 n12, Nat.pow_succ, Nat.mul_right_comm]
    have a1 : (if nu < 12 then (spP k G A hr m (p + 1) q (w * (12 - nu))).1 else 0) ≤ w * (12 - nu) * (12 ^ m * K) ∧ (if nu < 12 then (spP k G A hr m (p + 1) q (w * (12 - nu))).2 else 0) ≤ 9 * (w * (12 - nu) * (12 ^ m * K)) := by
      by_cases c : nu < 12
      · rw [if_pos c, if_pos c]
        exact ih (p + 1) q (w * (12 - nu)) B (by omega) hG
      · rw [if_neg c, if_neg c]
        exact ⟨Nat.zero_le _, Nat.zero_le _⟩
    have a2 : (if 0 < nu then (spP k G A hr m (p + 1) (faF G A q p) (w * nu)).1 else 0) ≤ w * nu * (12 ^ m * K) ∧ (if 0 < nu then (spP k G A hr m (p + 1) (faF G A q p) (w * nu)).2 else 0) ≤ 9 * (w * nu * (12 ^ m * K)) := by
      by_cases c : 0 < nu
      · rw [if_pos c, if_pos c]
        exact ih (p + 1) (faF G A q p) (w * nu) (B + 1) (by omega) (GD_fa hG hA (by omega) (nz c))
      · rw [if_neg c, if_neg c]
        exact ⟨Nat.zero_le _, Nat.zero_le _⟩
    rw [e1]
    refine ⟨Nat.add_le_add a1.1 a2.1, ?_⟩
    rw [Nat.mul_add]
    exact Nat.add_le_add a1.2 a2.2
theorem spH_le {G : Wd} {A : Nat → Nat} {one : Nat} (hA : AOK G A) : ∀ y hr q w B, GD G q B → (spH G A one y hr q w).1 ≤ w * 12 ^ (y * G.P) ∧ (spH G A one y hr q w).2 ≤ 9 * (w * 12 ^ (y * G.P)) := by
  intro y
  induction y with
  | zero =>
    intro hr q w B hG
    rw [spH, Nat.zero_mul, Nat.pow_zero, Nat.mul_one]
    refine ⟨by split <;> omega, ?_⟩
    rw [Nat.mul_comm 9 w]
    exact Nat.mul_le_mul_left w (hG.1 one)
  | succ y ih =>
    intro hr q w B hG
    rw [spH]
    have := sp_le (hr := hr) hA (ih (hr + 1)) G.P 0 (tuF A G.P 0 q) w B (by omega) (GD_tuF hA G.P 0 q (by omega) hG)
    rw [Nat.add_mul, Nat.one_mul, Nat.pow_add, Nat.mul_comm (12 ^ (y * G.P))]
    exact this
