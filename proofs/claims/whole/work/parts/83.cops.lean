/-! the class reads: operands -/
theorem jv5 (tk : Nat → Nat) (X : Nat → Rs) : jvF tk X 5 = eiS tk X := rfl
theorem c_opS {d tl : Nat} {tp : Nat → Nat} {K : Option (Nat → Rs)} {o n : Nat} (hd : d = 13 ∨ d = 20) (ht : tl ≤ 120) (hp : ∀ k, tp k ≤ 255) (ho : o ≤ 6) (hK0 : K = none → o = 6) (hK1 : ∀ Y, K = some Y → o < 6 ∧ CI d tl tp (g_X8R n 2 (nI 40) (nI (o + 1))) (fun h => opS (tkF tl tp) (some Y) h) = CI d tl tp (g_X8R n 2 (nI 40) (nI (o + 1))) (fun h => opS (tkF tl tp) (some Y) h) ∧ ∃ m, n = m + 1 ∧ CI d tl tp (g_X8R m 0 (nI 0) (nI (o + 1))) (eiS (tkF tl tp) Y) ∧ CI d tl tp (g_X8R m 1 (nI (o + 1)) (nI 0)) Y) : CI d tl tp (g_X8R (n + 1) 1 (nI o) (nI 0)) (opS (tkF tl tp) K) := by
  intro s N D h x
  have td := x.1
  have N6 := x.2.2.2.2.2.2.1
  have N66 := x.2.2.2.2.2.1
  have h8 := x.2.2.2.2.2.2.2.1
  have at2 := x.2.1
  have hh := c_here x ht
  have hg := hv_dig (tl := tl) hp h s
  have hb := hp h
  have bad : ∀ Z : Rs, Z = (false, false, fun _ => nI 0, h) → g_X8R (n + 1) 1 (nI o) (nI 0) s = some (mI 1, s) → ∃ s' N' D', DS s' d tl tp N' D' Z.2.2.2 ∧ N ≤ N' ∧ N' + h ≤ N + Z.2.2.2 ∧ (∀ k, k < N → D' k = D k) ∧ FrP d s s' ∧ (Z.1 = true → ∃ x, x < N' ∧ g_X8R (n + 1) 1 (nI o) (nI 0) s = some (nI x, s') ∧ D' x = Z.2.2.1) ∧ (Z.1 = false → g_X8R (n + 1) 1 (nI o) (nI 0) s = some (mI 1, s')) := by
    rintro Z rfl e
    exact ⟨s, N, D, x, Nat.le_refl _, Nat.le_refl _, fun _ _ => rfl, FrP_rfl d s, (fun hr => by cases hr), fun _ => e⟩
  have c40 := hv_eq (tl := tl) hp h 40 (by omega)
  have c33 := hv_eq (tl := tl) hp h 33 (by omega)
  have c45 := hv_eq (tl := tl) hp h 45 (by omega)
  unfold opS
  by_cases cd : dgF (tkF tl tp h) = true
  · rw [if_pos cd]
    obtain ⟨s', D', a1, a2, a3, a4, a5, a6⟩ := c_num hd ht hp 4 0 fuel0 0 s N D h (by omega) (by rw [fuel0_eq]; omega) x (Or.inr ⟨by omega, cd⟩)
    have a7 := a2.2.2.2.2.2.2.1
    obtain ⟨c1, _, _, _⟩ := dg_lt cd
    have lt : h < (nmF (tkF tl tp) 4 0 h).2 := by
      have mono : ∀ n v h, h ≤ (nmF (tkF tl tp) n v h).2 := by
        intro n
        induction n with
        | zero => intro v h; exact Nat.le_refl _
        | succ n ih => intro v h; rw [nmF]; split; exact Nat.le_of_succ_le (ih _ _); exact Nat.le_refl _
      rw [nmF, if_pos cd]
      exact mono _ _ _
    refine ⟨s', N + 1, D', a2, by omega, by show N + 1 + h ≤ N + (nmF (tkF tl tp) 4 0 h).2; omega, a4, a6, fun _ => ⟨N, by omega, ?_, a5⟩, (fun hr => by cases hr)⟩
    rw [cd] at hg
    rw [g8_1]
    unfold f_X8_readOperand
    simp (disch := omega) only [↓bE (hh), ↓bE (hg), ↓reduceIte, li_0, li_1, li_2, li_3, li_4, li_5, li_6, li_7, li_8, li_9, li_10, li_11, li_12, li_13, li_14, li_15, li_16, li_17, li_18, li_19, li_20, li_21, li_22, li_23, li_24, li_25, li_26, li_27, li_28, li_29, li_30, li_31, li_32, li_33, li_34, li_35, li_36, li_37, li_38, li_39, li_40, li_41, li_42, li_43, li_44, li_45, li_46, li_47, li_48, li_49, li_50, li_51, li_52, li_53, li_54, li_55, li_56, li_57, li_58, li_59, li_60, li_61, li_62, li_63, li_70, li_80, li_81, li_95, li_98, li_99, li_100, li_101, li_102, li_103, li_104, li_105, li_106, li_107, li_108, li_109, li_110, li_111, li_112, li_120, li_122, li_124, li_126, li_130, li_168, li_175, li_200, li_255, li_260, li_360, li_1440, li_12345, li_1000000, li_1103515245, neg_nI, nltT, nltF, neqT, neqF, mlt_n, nlt_m, meq_n, neq_m, meq_mT, meq_mF, mlt_mT, mlt_mF, nI_cl, gd_in, gd_T, Option.bind_some, pI_ne, pI_eq, pI_2, pL_1, pL_ne, pL_eq, pL_22, upEq, upN, aN_at, aN_up, nU_e, nU_n, aAdd_n, aAdd_nm, aSub_p, aSub_n, aSub_mn, aSub_mm, aMul_n, aDiv_n, aRem_n, eq_self_iff_true, tB_T, f_X8_readNumber]
    rw [a1]
    rfl
  rw [if_neg cd]
  have cdf := Bool.eq_false_iff.mpr cd
  rw [cdf] at hg
  by_cases e40 : tkF tl tp h = 40
  · rw [if_pos e40]
    obtain ⟨l1, l2⟩ := tk_lt e40 (by omega)
    rw [if_pos l1] at hh hg
    rw [l2] at hh hg
    cases K with
    | none =>
      have := hK0 rfl
      refine bad _ rfl ?_
      rw [g8_1]
      unfold f_X8_readOperand
      simp (disch := omega) only [↓bE (hh), ↓bE (hg), ↓reduceIte, li_0, li_1, li_2, li_3, li_4, li_5, li_6, li_7, li_8, li_9, li_10, li_11, li_12, li_13, li_14, li_15, li_16, li_17, li_18, li_19, li_20, li_21, li_22, li_23, li_24, li_25, li_26, li_27, li_28, li_29, li_30, li_31, li_32, li_33, li_34, li_35, li_36, li_37, li_38, li_39, li_40, li_41, li_42, li_43, li_44, li_45, li_46, li_47, li_48, li_49, li_50, li_51, li_52, li_53, li_54, li_55, li_56, li_57, li_58, li_59, li_60, li_61, li_62, li_63, li_70, li_80, li_81, li_95, li_98, li_99, li_100, li_101, li_102, li_103, li_104, li_105, li_106, li_107, li_108, li_109, li_110, li_111, li_112, li_120, li_122, li_124, li_126, li_130, li_168, li_175, li_200, li_255, li_260, li_360, li_1440, li_12345, li_1000000, li_1103515245, neg_nI, nltT, nltF, neqT, neqF, mlt_n, nlt_m, meq_n, neq_m, meq_mT, meq_mF, mlt_mT, mlt_mF, nI_cl, gd_in, gd_T, Option.bind_some, pI_ne, pI_eq, pI_2, pL_1, pL_ne, pL_eq, pL_22, upEq, upN, aN_at, aN_up, nU_e, nU_n, aAdd_n, aAdd_nm, aSub_p, aSub_n, aSub_mn, aSub_mm, aMul_n, aDiv_n, aRem_n, eq_self_iff_true, tB_F]
    | some Y =>
      obtain ⟨o6, _, m, rfl, q1, q2⟩ := hK1 Y rfl
      simp only
      obtain ⟨xa, xf⟩ := DS_at hd x (h + 1) (by omega) (by omega)
      obtain ⟨s1, N1, D1, b1, b2, b3, b4, b5, b6, b7⟩ := q1 _ N D (h + 1) xa
      have p8 := b1.2.2.2.2.2.2.2.1
      have hh1 := c_here b1 ht
      have c41 := hv_eq (tl := tl) hp (eiS (tkF tl tp) Y (h + 1)).2.2.2 41 (by omega)
      by_cases c : (eiS (tkF tl tp) Y (h + 1)).1 = true ∧ tkF tl tp (eiS (tkF tl tp) Y (h + 1)).2.2.2 = 41
      · rw [if_pos c]
        obtain ⟨w, w1, w2, w3⟩ := b6 c.1
        obtain ⟨l3, l4⟩ := tk_lt c.2 (by omega)
        obtain ⟨xb, xg⟩ := DS_at hd b1 ((eiS (tkF tl tp) Y (h + 1)).2.2.2 + 1) (by omega) (by omega)
        refine ⟨_, N1, D1, xb, b2, by show N1 + h ≤ N + ((eiS (tkF tl tp) Y (h + 1)).2.2.2 + 1); omega, b4, FrP_tr xf (FrP_tr b5 xg), fun _ => ⟨w, w1, ?_, w3⟩, (fun hr => by cases hr)⟩
        rw [if_pos l3, l4] at hh1
        rw [g8_1]
        unfold f_X8_readOperand
        simp (disch := omega) only [↓bE (hh), ↓bE (hg), ↓reduceIte, li_0, li_1, li_2, li_3, li_4, li_5, li_6, li_7, li_8, li_9, li_10, li_11, li_12, li_13, li_14, li_15, li_16, li_17, li_18, li_19, li_20, li_21, li_22, li_23, li_24, li_25, li_26, li_27, li_28, li_29, li_30, li_31, li_32, li_33, li_34, li_35, li_36, li_37, li_38, li_39, li_40, li_41, li_42, li_43, li_44, li_45, li_46, li_47, li_48, li_49, li_50, li_51, li_52, li_53, li_54, li_55, li_56, li_57, li_58, li_59, li_60, li_61, li_62, li_63, li_70, li_80, li_81, li_95, li_98, li_99, li_100, li_101, li_102, li_103, li_104, li_105, li_106, li_107, li_108, li_109, li_110, li_111, li_112, li_120, li_122, li_124, li_126, li_130, li_168, li_175, li_200, li_255, li_260, li_360, li_1440, li_12345, li_1000000, li_1103515245, neg_nI, nltT, nltF, neqT, neqF, mlt_n, nlt_m, meq_n, neq_m, meq_mT, meq_mF, mlt_mT, mlt_mF, nI_cl, gd_in, gd_T, Option.bind_some, pI_ne, pI_eq, pI_2, pL_1, pL_ne, pL_eq, pL_22, upEq, upN, aN_at, aN_up, nU_e, nU_n, aAdd_n, aAdd_nm, aSub_p, aSub_n, aSub_mn, aSub_mm, aMul_n, aDiv_n, aRem_n, eq_self_iff_true, tB_F, g8_2, f_X8_readOpened, at2]
        simp (disch := omega) only [↓bE (w2), ↓bE (hh1), ↓reduceIte, li_0, li_1, li_2, li_3, li_4, li_5, li_6, li_7, li_8, li_9, li_10, li_11, li_12, li_13, li_14, li_15, li_16, li_17, li_18, li_19, li_20, li_21, li_22, li_23, li_24, li_25, li_26, li_27, li_28, li_29, li_30, li_31, li_32, li_33, li_34, li_35, li_36, li_37, li_38, li_39, li_40, li_41, li_42, li_43, li_44, li_45, li_46, li_47, li_48, li_49, li_50, li_51, li_52, li_53, li_54, li_55, li_56, li_57, li_58, li_59, li_60, li_61, li_62, li_63, li_70, li_80, li_81, li_95, li_98, li_99, li_100, li_101, li_102, li_103, li_104, li_105, li_106, li_107, li_108, li_109, li_110, li_111, li_112, li_120, li_122, li_124, li_126, li_130, li_168, li_175, li_200, li_255, li_260, li_360, li_1440, li_12345, li_1000000, li_1103515245, neg_nI, nltT, nltF, neqT, neqF, mlt_n, nlt_m, meq_n, neq_m, meq_mT, meq_mF, mlt_mT, mlt_mF, nI_cl, gd_in, gd_T, Option.bind_some, pI_ne, pI_eq, pI_2, pL_1, pL_ne, pL_eq, pL_22, upEq, upN, aN_at, aN_up, nU_e, nU_n, aAdd_n, aAdd_nm, aSub_p, aSub_n, aSub_mn, aSub_mm, aMul_n, aDiv_n, aRem_n, eq_self_iff_true, b1.2.1]
      · rw [if_neg c]
        refine ⟨s1, N1, D1, b1, b2, by show N1 + h ≤ N + (eiS (tkF tl tp) Y (h + 1)).2.2.2; omega, b4, FrP_tr xf b5, (fun hr => by cases hr), fun _ => ?_⟩
        rw [g8_1]
        unfold f_X8_readOperand
        simp (disch := omega) only [↓bE (hh), ↓bE (hg), ↓reduceIte, li_0, li_1, li_2, li_3, li_4, li_5, li_6, li_7, li_8, li_9, li_10, li_11, li_12, li_13, li_14, li_15, li_16, li_17, li_18, li_19, li_20, li_21, li_22, li_23, li_24, li_25, li_26, li_27, li_28, li_29, li_30, li_31, li_32, li_33, li_34, li_35, li_36, li_37, li_38, li_39, li_40, li_41, li_42, li_43, li_44, li_45, li_46, li_47, li_48, li_49, li_50, li_51, li_52, li_53, li_54, li_55, li_56, li_57, li_58, li_59, li_60, li_61, li_62, li_63, li_70, li_80, li_81, li_95, li_98, li_99, li_100, li_101, li_102, li_103, li_104, li_105, li_106, li_107, li_108, li_109, li_110, li_111, li_112, li_120, li_122, li_124, li_126, li_130, li_168, li_175, li_200, li_255, li_260, li_360, li_1440, li_12345, li_1000000, li_1103515245, neg_nI, nltT, nltF, neqT, neqF, mlt_n, nlt_m, meq_n, neq_m, meq_mT, meq_mF, mlt_mT, mlt_mF, nI_cl, gd_in, gd_T, Option.bind_some, pI_ne, pI_eq, pI_2, pL_1, pL_ne, pL_eq, pL_22, upEq, upN, aN_at, aN_up, nU_e, nU_n, aAdd_n, aAdd_nm, aSub_p, aSub_n, aSub_mn, aSub_mm, aMul_n, aDiv_n, aRem_n, eq_self_iff_true, tB_F, g8_2, f_X8_readOpened, at2]
        cases hr : (eiS (tkF tl tp) Y (h + 1)).1 with
        | false => simp (disch := omega) only [↓bE (b7 hr), ↓reduceIte, li_0, li_1, li_2, li_3, li_4, li_5, li_6, li_7, li_8, li_9, li_10, li_11, li_12, li_13, li_14, li_15, li_16, li_17, li_18, li_19, li_20, li_21, li_22, li_23, li_24, li_25, li_26, li_27, li_28, li_29, li_30, li_31, li_32, li_33, li_34, li_35, li_36, li_37, li_38, li_39, li_40, li_41, li_42, li_43, li_44, li_45, li_46, li_47, li_48, li_49, li_50, li_51, li_52, li_53, li_54, li_55, li_56, li_57, li_58, li_59, li_60, li_61, li_62, li_63, li_70, li_80, li_81, li_95, li_98, li_99, li_100, li_101, li_102, li_103, li_104, li_105, li_106, li_107, li_108, li_109, li_110, li_111, li_112, li_120, li_122, li_124, li_126, li_130, li_168, li_175, li_200, li_255, li_260, li_360, li_1440, li_12345, li_1000000, li_1103515245, neg_nI, nltT, nltF, neqT, neqF, mlt_n, nlt_m, meq_n, neq_m, meq_mT, meq_mF, mlt_mT, mlt_mF, nI_cl, gd_in, gd_T, Option.bind_some, pI_ne, pI_eq, pI_2, pL_1, pL_ne, pL_eq, pL_22, upEq, upN, aN_at, aN_up, nU_e, nU_n, aAdd_n, aAdd_nm, aSub_p, aSub_n, aSub_mn, aSub_mm, aMul_n, aDiv_n, aRem_n, eq_self_iff_true]
        | true =>
          obtain ⟨w, w1, w2, w3⟩ := b6 hr
          have c2 : tkF tl tp (eiS (tkF tl tp) Y (h + 1)).2.2.2 ≠ 41 := fun z => c ⟨hr, z⟩
          have w126 := b1.2.2.2.2.2.2.1
          simp (disch := omega) only [↓bE (w2), ↓bE (hh1), ↓reduceIte, li_0, li_1, li_2, li_3, li_4, li_5, li_6, li_7, li_8, li_9, li_10, li_11, li_12, li_13, li_14, li_15, li_16, li_17, li_18, li_19, li_20, li_21, li_22, li_23, li_24, li_25, li_26, li_27, li_28, li_29, li_30, li_31, li_32, li_33, li_34, li_35, li_36, li_37, li_38, li_39, li_40, li_41, li_42, li_43, li_44, li_45, li_46, li_47, li_48, li_49, li_50, li_51, li_52, li_53, li_54, li_55, li_56, li_57, li_58, li_59, li_60, li_61, li_62, li_63, li_70, li_80, li_81, li_95, li_98, li_99, li_100, li_101, li_102, li_103, li_104, li_105, li_106, li_107, li_108, li_109, li_110, li_111, li_112, li_120, li_122, li_124, li_126, li_130, li_168, li_175, li_200, li_255, li_260, li_360, li_1440, li_12345, li_1000000, li_1103515245, neg_nI, nltT, nltF, neqT, neqF, mlt_n, nlt_m, meq_n, neq_m, meq_mT, meq_mF, mlt_mT, mlt_mF, nI_cl, gd_in, gd_T, Option.bind_some, pI_ne, pI_eq, pI_2, pL_1, pL_ne, pL_eq, pL_22, upEq, upN, aN_at, aN_up, nU_e, nU_n, aAdd_n, aAdd_nm, aSub_p, aSub_n, aSub_mn, aSub_mm, aMul_n, aDiv_n, aRem_n, eq_self_iff_true, c41, c2]
  rw [if_neg e40]
  by_cases eu : tkF tl tp h = 33 ∨ tkF tl tp h = 45
  · rw [if_pos eu]
    obtain ⟨l1, l2⟩ := tk_lt (rfl : tkF tl tp h = tkF tl tp h) (by omega)
    rw [if_pos l1] at hh hg
    have lv : tp h = 33 ∨ tp h = 45 := by omega
    cases K with
    | none =>
      have := hK0 rfl
      refine bad _ rfl ?_
      rw [g8_1]
      unfold f_X8_readOperand
      rcases lv with lv | lv
      · rw [lv] at hh hg
        simp (disch := omega) only [↓bE (hh), ↓bE (hg), ↓reduceIte, li_0, li_1, li_2, li_3, li_4, li_5, li_6, li_7, li_8, li_9, li_10, li_11, li_12, li_13, li_14, li_15, li_16, li_17, li_18, li_19, li_20, li_21, li_22, li_23, li_24, li_25, li_26, li_27, li_28, li_29, li_30, li_31, li_32, li_33, li_34, li_35, li_36, li_37, li_38, li_39, li_40, li_41, li_42, li_43, li_44, li_45, li_46, li_47, li_48, li_49, li_50, li_51, li_52, li_53, li_54, li_55, li_56, li_57, li_58, li_59, li_60, li_61, li_62, li_63, li_70, li_80, li_81, li_95, li_98, li_99, li_100, li_101, li_102, li_103, li_104, li_105, li_106, li_107, li_108, li_109, li_110, li_111, li_112, li_120, li_122, li_124, li_126, li_130, li_168, li_175, li_200, li_255, li_260, li_360, li_1440, li_12345, li_1000000, li_1103515245, neg_nI, nltT, nltF, neqT, neqF, mlt_n, nlt_m, meq_n, neq_m, meq_mT, meq_mF, mlt_mT, mlt_mF, nI_cl, gd_in, gd_T, Option.bind_some, pI_ne, pI_eq, pI_2, pL_1, pL_ne, pL_eq, pL_22, upEq, upN, aN_at, aN_up, nU_e, nU_n, aAdd_n, aAdd_nm, aSub_p, aSub_n, aSub_mn, aSub_mm, aMul_n, aDiv_n, aRem_n, eq_self_iff_true, tB_F]
      · rw [lv] at hh hg
        simp (disch := omega) only [↓bE (hh), ↓bE (hg), ↓reduceIte, li_0, li_1, li_2, li_3, li_4, li_5, li_6, li_7, li_8, li_9, li_10, li_11, li_12, li_13, li_14, li_15, li_16, li_17, li_18, li_19, li_20, li_21, li_22, li_23, li_24, li_25, li_26, li_27, li_28, li_29, li_30, li_31, li_32, li_33, li_34, li_35, li_36, li_37, li_38, li_39, li_40, li_41, li_42, li_43, li_44, li_45, li_46, li_47, li_48, li_49, li_50, li_51, li_52, li_53, li_54, li_55, li_56, li_57, li_58, li_59, li_60, li_61, li_62, li_63, li_70, li_80, li_81, li_95, li_98, li_99, li_100, li_101, li_102, li_103, li_104, li_105, li_106, li_107, li_108, li_109, li_110, li_111, li_112, li_120, li_122, li_124, li_126, li_130, li_168, li_175, li_200, li_255, li_260, li_360, li_1440, li_12345, li_1000000, li_1103515245, neg_nI, nltT, nltF, neqT, neqF, mlt_n, nlt_m, meq_n, neq_m, meq_mT, meq_mF, mlt_mT, mlt_mF, nI_cl, gd_in, gd_T, Option.bind_some, pI_ne, pI_eq, pI_2, pL_1, pL_ne, pL_eq, pL_22, upEq, upN, aN_at, aN_up, nU_e, nU_n, aAdd_n, aAdd_nm, aSub_p, aSub_n, aSub_mn, aSub_mm, aMul_n, aDiv_n, aRem_n, eq_self_iff_true, tB_F]
    | some Y =>
      obtain ⟨o6, _, m, rfl, q1, q2⟩ := hK1 Y rfl
      simp only
      obtain ⟨xa, xf⟩ := DS_at hd x (h + 1) (by omega) (by omega)
      obtain ⟨s1, N1, D1, b1, b2, b3, b4, b5, b6, b7⟩ := q2 _ N D (h + 1) xa
      have p8 := b1.2.2.2.2.2.2.2.1
      have pN := b1.2.2.2.2.2.2.1
      have td1 := b1.1
      have D0 : D1 0 = fun v => v 0 := b1.2.2.2.2.2.2.2.2.1 0 (by omega)
      cases hr : (Y (h + 1)).1 with
      | false =>
        rw [if_neg Bool.false_ne_true]
        refine ⟨s1, N1, D1, b1, b2, by show N1 + h ≤ N + (Y (h + 1)).2.2.2; omega, b4, FrP_tr xf b5, (fun hr => by cases hr), fun _ => ?_⟩
        rw [g8_1]
        unfold f_X8_readOperand
        rcases lv with lv | lv
        · rw [lv] at hh hg
          simp (disch := omega) only [↓bE (hh), ↓bE (hg), ↓reduceIte, li_0, li_1, li_2, li_3, li_4, li_5, li_6, li_7, li_8, li_9, li_10, li_11, li_12, li_13, li_14, li_15, li_16, li_17, li_18, li_19, li_20, li_21, li_22, li_23, li_24, li_25, li_26, li_27, li_28, li_29, li_30, li_31, li_32, li_33, li_34, li_35, li_36, li_37, li_38, li_39, li_40, li_41, li_42, li_43, li_44, li_45, li_46, li_47, li_48, li_49, li_50, li_51, li_52, li_53, li_54, li_55, li_56, li_57, li_58, li_59, li_60, li_61, li_62, li_63, li_70, li_80, li_81, li_95, li_98, li_99, li_100, li_101, li_102, li_103, li_104, li_105, li_106, li_107, li_108, li_109, li_110, li_111, li_112, li_120, li_122, li_124, li_126, li_130, li_168, li_175, li_200, li_255, li_260, li_360, li_1440, li_12345, li_1000000, li_1103515245, neg_nI, nltT, nltF, neqT, neqF, mlt_n, nlt_m, meq_n, neq_m, meq_mT, meq_mF, mlt_mT, mlt_mF, nI_cl, gd_in, gd_T, Option.bind_some, pI_ne, pI_eq, pI_2, pL_1, pL_ne, pL_eq, pL_22, upEq, upN, aN_at, aN_up, nU_e, nU_n, aAdd_n, aAdd_nm, aSub_p, aSub_n, aSub_mn, aSub_mm, aMul_n, aDiv_n, aRem_n, eq_self_iff_true, tB_F, g8_2, f_X8_readOpened, at2]
          simp (disch := omega) only [↓bE (b7 hr), ↓reduceIte, li_0, li_1, li_2, li_3, li_4, li_5, li_6, li_7, li_8, li_9, li_10, li_11, li_12, li_13, li_14, li_15, li_16, li_17, li_18, li_19, li_20, li_21, li_22, li_23, li_24, li_25, li_26, li_27, li_28, li_29, li_30, li_31, li_32, li_33, li_34, li_35, li_36, li_37, li_38, li_39, li_40, li_41, li_42, li_43, li_44, li_45, li_46, li_47, li_48, li_49, li_50, li_51, li_52, li_53, li_54, li_55, li_56, li_57, li_58, li_59, li_60, li_61, li_62, li_63, li_70, li_80, li_81, li_95, li_98, li_99, li_100, li_101, li_102, li_103, li_104, li_105, li_106, li_107, li_108, li_109, li_110, li_111, li_112, li_120, li_122, li_124, li_126, li_130, li_168, li_175, li_200, li_255, li_260, li_360, li_1440, li_12345, li_1000000, li_1103515245, neg_nI, nltT, nltF, neqT, neqF, mlt_n, nlt_m, meq_n, neq_m, meq_mT, meq_mF, mlt_mT, mlt_mF, nI_cl, gd_in, gd_T, Option.bind_some, pI_ne, pI_eq, pI_2, pL_1, pL_ne, pL_eq, pL_22, upEq, upN, aN_at, aN_up, nU_e, nU_n, aAdd_n, aAdd_nm, aSub_p, aSub_n, aSub_mn, aSub_mm, aMul_n, aDiv_n, aRem_n, eq_self_iff_true]
        · rw [lv] at hh hg
          simp (disch := omega) only [↓bE (hh), ↓bE (hg), ↓reduceIte, li_0, li_1, li_2, li_3, li_4, li_5, li_6, li_7, li_8, li_9, li_10, li_11, li_12, li_13, li_14, li_15, li_16, li_17, li_18, li_19, li_20, li_21, li_22, li_23, li_24, li_25, li_26, li_27, li_28, li_29, li_30, li_31, li_32, li_33, li_34, li_35, li_36, li_37, li_38, li_39, li_40, li_41, li_42, li_43, li_44, li_45, li_46, li_47, li_48, li_49, li_50, li_51, li_52, li_53, li_54, li_55, li_56, li_57, li_58, li_59, li_60, li_61, li_62, li_63, li_70, li_80, li_81, li_95, li_98, li_99, li_100, li_101, li_102, li_103, li_104, li_105, li_106, li_107, li_108, li_109, li_110, li_111, li_112, li_120, li_122, li_124, li_126, li_130, li_168, li_175, li_200, li_255, li_260, li_360, li_1440, li_12345, li_1000000, li_1103515245, neg_nI, nltT, nltF, neqT, neqF, mlt_n, nlt_m, meq_n, neq_m, meq_mT, meq_mF, mlt_mT, mlt_mF, nI_cl, gd_in, gd_T, Option.bind_some, pI_ne, pI_eq, pI_2, pL_1, pL_ne, pL_eq, pL_22, upEq, upN, aN_at, aN_up, nU_e, nU_n, aAdd_n, aAdd_nm, aSub_p, aSub_n, aSub_mn, aSub_mm, aMul_n, aDiv_n, aRem_n, eq_self_iff_true, tB_F, g8_2, f_X8_readOpened, at2]
          simp (disch := omega) only [↓bE (b7 hr), ↓reduceIte, li_0, li_1, li_2, li_3, li_4, li_5, li_6, li_7, li_8, li_9, li_10, li_11, li_12, li_13, li_14, li_15, li_16, li_17, li_18, li_19, li_20, li_21, li_22, li_23, li_24, li_25, li_26, li_27, li_28, li_29, li_30, li_31, li_32, li_33, li_34, li_35, li_36, li_37, li_38, li_39, li_40, li_41, li_42, li_43, li_44, li_45, li_46, li_47, li_48, li_49, li_50, li_51, li_52, li_53, li_54, li_55, li_56, li_57, li_58, li_59, li_60, li_61, li_62, li_63, li_70, li_80, li_81, li_95, li_98, li_99, li_100, li_101, li_102, li_103, li_104, li_105, li_106, li_107, li_108, li_109, li_110, li_111, li_112, li_120, li_122, li_124, li_126, li_130, li_168, li_175, li_200, li_255, li_260, li_360, li_1440, li_12345, li_1000000, li_1103515245, neg_nI, nltT, nltF, neqT, neqF, mlt_n, nlt_m, meq_n, neq_m, meq_mT, meq_mF, mlt_mT, mlt_mF, nI_cl, gd_in, gd_T, Option.bind_some, pI_ne, pI_eq, pI_2, pL_1, pL_ne, pL_eq, pL_22, upEq, upN, aN_at, aN_up, nU_e, nU_n, aAdd_n, aAdd_nm, aSub_p, aSub_n, aSub_mn, aSub_mm, aMul_n, aDiv_n, aRem_n, eq_self_iff_true]
      | true =>
        rw [if_pos rfl]
        obtain ⟨w, w1, w2, w3⟩ := b6 hr
        obtain ⟨cc, hcc, hc48, hc128, hce⟩ : ∃ cc, (if tkF tl tp h = 33 then nI 33 else nI 95) = nI cc ∧ cc ≠ 48 ∧ cc < 128 ∧ (cc = 33 ∧ tp h = 33 ∨ cc = 95 ∧ tp h = 45) := by
          rcases lv with lv | lv
          · exact ⟨33, by rw [if_pos (by omega)], by omega, by omega, Or.inl ⟨rfl, lv⟩⟩
          · exact ⟨95, by rw [if_neg (by omega)], by omega, by omega, Or.inr ⟨rfl, lv⟩⟩
        obtain ⟨s2, D2, d1, d2, d3, d4, d5⟩ := c_add (c := cc) (a := w) (b := 0) hd b1 ht (by omega) hc48 hc128 w1 (by omega)
        refine ⟨s2, N1 + 1, D2, d2, by omega, by show N1 + 1 + h ≤ N + (Y (h + 1)).2.2.2; omega, fun k hk => by rw [d3 k (by omega), b4 k hk], FrP_tr xf (FrP_tr b5 d5), fun _ => ⟨N1, by omega, ?_, ?_⟩, (fun hr => by cases hr)⟩
        · rw [g8_1]
          unfold f_X8_readOperand
          rcases hce with ⟨rfl, lv⟩ | ⟨rfl, lv⟩
          · rw [lv] at hh hg
            simp (disch := omega) only [↓bE (hh), ↓bE (hg), ↓reduceIte, li_0, li_1, li_2, li_3, li_4, li_5, li_6, li_7, li_8, li_9, li_10, li_11, li_12, li_13, li_14, li_15, li_16, li_17, li_18, li_19, li_20, li_21, li_22, li_23, li_24, li_25, li_26, li_27, li_28, li_29, li_30, li_31, li_32, li_33, li_34, li_35, li_36, li_37, li_38, li_39, li_40, li_41, li_42, li_43, li_44, li_45, li_46, li_47, li_48, li_49, li_50, li_51, li_52, li_53, li_54, li_55, li_56, li_57, li_58, li_59, li_60, li_61, li_62, li_63, li_70, li_80, li_81, li_95, li_98, li_99, li_100, li_101, li_102, li_103, li_104, li_105, li_106, li_107, li_108, li_109, li_110, li_111, li_112, li_120, li_122, li_124, li_126, li_130, li_168, li_175, li_200, li_255, li_260, li_360, li_1440, li_12345, li_1000000, li_1103515245, neg_nI, nltT, nltF, neqT, neqF, mlt_n, nlt_m, meq_n, neq_m, meq_mT, meq_mF, mlt_mT, mlt_mF, nI_cl, gd_in, gd_T, Option.bind_some, pI_ne, pI_eq, pI_2, pL_1, pL_ne, pL_eq, pL_22, upEq, upN, aN_at, aN_up, nU_e, nU_n, aAdd_n, aAdd_nm, aSub_p, aSub_n, aSub_mn, aSub_mm, aMul_n, aDiv_n, aRem_n, eq_self_iff_true, tB_F, g8_2, f_X8_readOpened, at2]
            simp (disch := omega) only [↓bE (w2), ↓reduceIte, li_0, li_1, li_2, li_3, li_4, li_5, li_6, li_7, li_8, li_9, li_10, li_11, li_12, li_13, li_14, li_15, li_16, li_17, li_18, li_19, li_20, li_21, li_22, li_23, li_24, li_25, li_26, li_27, li_28, li_29, li_30, li_31, li_32, li_33, li_34, li_35, li_36, li_37, li_38, li_39, li_40, li_41, li_42, li_43, li_44, li_45, li_46, li_47, li_48, li_49, li_50, li_51, li_52, li_53, li_54, li_55, li_56, li_57, li_58, li_59, li_60, li_61, li_62, li_63, li_70, li_80, li_81, li_95, li_98, li_99, li_100, li_101, li_102, li_103, li_104, li_105, li_106, li_107, li_108, li_109, li_110, li_111, li_112, li_120, li_122, li_124, li_126, li_130, li_168, li_175, li_200, li_255, li_260, li_360, li_1440, li_12345, li_1000000, li_1103515245, neg_nI, nltT, nltF, neqT, neqF, mlt_n, nlt_m, meq_n, neq_m, meq_mT, meq_mF, mlt_mT, mlt_mF, nI_cl, gd_in, gd_T, Option.bind_some, pI_ne, pI_eq, pI_2, pL_1, pL_ne, pL_eq, pL_22, upEq, upN, aN_at, aN_up, nU_e, nU_n, aAdd_n, aAdd_nm, aSub_p, aSub_n, aSub_mn, aSub_mm, aMul_n, aDiv_n, aRem_n, eq_self_iff_true, td1, gd_K, gd_B, d1]
          · rw [lv] at hh hg
            simp (disch := omega) only [↓bE (hh), ↓bE (hg), ↓reduceIte, li_0, li_1, li_2, li_3, li_4, li_5, li_6, li_7, li_8, li_9, li_10, li_11, li_12, li_13, li_14, li_15, li_16, li_17, li_18, li_19, li_20, li_21, li_22, li_23, li_24, li_25, li_26, li_27, li_28, li_29, li_30, li_31, li_32, li_33, li_34, li_35, li_36, li_37, li_38, li_39, li_40, li_41, li_42, li_43, li_44, li_45, li_46, li_47, li_48, li_49, li_50, li_51, li_52, li_53, li_54, li_55, li_56, li_57, li_58, li_59, li_60, li_61, li_62, li_63, li_70, li_80, li_81, li_95, li_98, li_99, li_100, li_101, li_102, li_103, li_104, li_105, li_106, li_107, li_108, li_109, li_110, li_111, li_112, li_120, li_122, li_124, li_126, li_130, li_168, li_175, li_200, li_255, li_260, li_360, li_1440, li_12345, li_1000000, li_1103515245, neg_nI, nltT, nltF, neqT, neqF, mlt_n, nlt_m, meq_n, neq_m, meq_mT, meq_mF, mlt_mT, mlt_mF, nI_cl, gd_in, gd_T, Option.bind_some, pI_ne, pI_eq, pI_2, pL_1, pL_ne, pL_eq, pL_22, upEq, upN, aN_at, aN_up, nU_e, nU_n, aAdd_n, aAdd_nm, aSub_p, aSub_n, aSub_mn, aSub_mm, aMul_n, aDiv_n, aRem_n, eq_self_iff_true, tB_F, g8_2, f_X8_readOpened, at2]
            simp (disch := omega) only [↓bE (w2), ↓reduceIte, li_0, li_1, li_2, li_3, li_4, li_5, li_6, li_7, li_8, li_9, li_10, li_11, li_12, li_13, li_14, li_15, li_16, li_17, li_18, li_19, li_20, li_21, li_22, li_23, li_24, li_25, li_26, li_27, li_28, li_29, li_30, li_31, li_32, li_33, li_34, li_35, li_36, li_37, li_38, li_39, li_40, li_41, li_42, li_43, li_44, li_45, li_46, li_47, li_48, li_49, li_50, li_51, li_52, li_53, li_54, li_55, li_56, li_57, li_58, li_59, li_60, li_61, li_62, li_63, li_70, li_80, li_81, li_95, li_98, li_99, li_100, li_101, li_102, li_103, li_104, li_105, li_106, li_107, li_108, li_109, li_110, li_111, li_112, li_120, li_122, li_124, li_126, li_130, li_168, li_175, li_200, li_255, li_260, li_360, li_1440, li_12345, li_1000000, li_1103515245, neg_nI, nltT, nltF, neqT, neqF, mlt_n, nlt_m, meq_n, neq_m, meq_mT, meq_mF, mlt_mT, mlt_mF, nI_cl, gd_in, gd_T, Option.bind_some, pI_ne, pI_eq, pI_2, pL_1, pL_ne, pL_eq, pL_22, upEq, upN, aN_at, aN_up, nU_e, nU_n, aAdd_n, aAdd_nm, aSub_p, aSub_n, aSub_mn, aSub_mm, aMul_n, aDiv_n, aRem_n, eq_self_iff_true, td1, gd_K, gd_B, d1]
        · rw [d4, w3, D0]
          simp only
          rw [hcc]
  rw [if_neg eu]
  have n33 : tkF tl tp h ≠ 33 := fun z => eu (Or.inl z)
  have n45 : tkF tl tp h ≠ 45 := fun z => eu (Or.inr z)
  by_cases cl : h < tl
  · have tke : tkF tl tp h = tp h := if_pos cl
    rw [if_pos cl] at hh hg
    rw [tke] at e40 n33 n45 ⊢
    have ci := c_idx hb s
    cases hi : idF (tp h) with
    | none =>
      rw [hi] at ci
      refine bad _ rfl ?_
      rw [g8_1]
      unfold f_X8_readOperand
      simp (disch := omega) only [↓bE (hh), ↓bE (hg), ↓bE (ci), ↓reduceIte, li_0, li_1, li_2, li_3, li_4, li_5, li_6, li_7, li_8, li_9, li_10, li_11, li_12, li_13, li_14, li_15, li_16, li_17, li_18, li_19, li_20, li_21, li_22, li_23, li_24, li_25, li_26, li_27, li_28, li_29, li_30, li_31, li_32, li_33, li_34, li_35, li_36, li_37, li_38, li_39, li_40, li_41, li_42, li_43, li_44, li_45, li_46, li_47, li_48, li_49, li_50, li_51, li_52, li_53, li_54, li_55, li_56, li_57, li_58, li_59, li_60, li_61, li_62, li_63, li_70, li_80, li_81, li_95, li_98, li_99, li_100, li_101, li_102, li_103, li_104, li_105, li_106, li_107, li_108, li_109, li_110, li_111, li_112, li_120, li_122, li_124, li_126, li_130, li_168, li_175, li_200, li_255, li_260, li_360, li_1440, li_12345, li_1000000, li_1103515245, neg_nI, nltT, nltF, neqT, neqF, mlt_n, nlt_m, meq_n, neq_m, meq_mT, meq_mF, mlt_mT, mlt_mF, nI_cl, gd_in, gd_T, Option.bind_some, pI_ne, pI_eq, pI_2, pL_1, pL_ne, pL_eq, pL_22, upEq, upN, aN_at, aN_up, nU_e, nU_n, aAdd_n, aAdd_nm, aSub_p, aSub_n, aSub_mn, aSub_mm, aMul_n, aDiv_n, aRem_n, eq_self_iff_true, tB_F]
    | some i =>
      rw [hi] at ci
      have hi6 : i < 6 := by have := (id_iff (tp h) i).mp hi; omega
      obtain ⟨xa, xf⟩ := DS_at hd x (h + 1) (by omega) (by omega)
      refine ⟨_, N, D, xa, Nat.le_refl _, by show N + h ≤ N + (h + 1); omega, fun _ _ => rfl, xf, fun _ => ⟨i, by omega, ?_, x.2.2.2.2.2.2.2.2.1 i hi6⟩, (fun hr => by cases hr)⟩
      rw [g8_1]
      unfold f_X8_readOperand
      simp (disch := omega) only [↓bE (hh), ↓bE (hg), ↓bE (ci), ↓reduceIte, li_0, li_1, li_2, li_3, li_4, li_5, li_6, li_7, li_8, li_9, li_10, li_11, li_12, li_13, li_14, li_15, li_16, li_17, li_18, li_19, li_20, li_21, li_22, li_23, li_24, li_25, li_26, li_27, li_28, li_29, li_30, li_31, li_32, li_33, li_34, li_35, li_36, li_37, li_38, li_39, li_40, li_41, li_42, li_43, li_44, li_45, li_46, li_47, li_48, li_49, li_50, li_51, li_52, li_53, li_54, li_55, li_56, li_57, li_58, li_59, li_60, li_61, li_62, li_63, li_70, li_80, li_81, li_95, li_98, li_99, li_100, li_101, li_102, li_103, li_104, li_105, li_106, li_107, li_108, li_109, li_110, li_111, li_112, li_120, li_122, li_124, li_126, li_130, li_168, li_175, li_200, li_255, li_260, li_360, li_1440, li_12345, li_1000000, li_1103515245, neg_nI, nltT, nltF, neqT, neqF, mlt_n, nlt_m, meq_n, neq_m, meq_mT, meq_mF, mlt_mT, mlt_mF, nI_cl, gd_in, gd_T, Option.bind_some, pI_ne, pI_eq, pI_2, pL_1, pL_ne, pL_eq, pL_22, upEq, upN, aN_at, aN_up, nU_e, nU_n, aAdd_n, aAdd_nm, aSub_p, aSub_n, aSub_mn, aSub_mm, aMul_n, aDiv_n, aRem_n, eq_self_iff_true, tB_F, at2]
  · have tke : tkF tl tp h = 200 := if_neg cl
    rw [tke]
    rw [if_neg cl] at hh hg
    refine bad _ rfl ?_
    rw [g8_1]
    unfold f_X8_readOperand
    simp (disch := omega) only [↓bE (hh), ↓bE (hg), ↓reduceIte, li_0, li_1, li_2, li_3, li_4, li_5, li_6, li_7, li_8, li_9, li_10, li_11, li_12, li_13, li_14, li_15, li_16, li_17, li_18, li_19, li_20, li_21, li_22, li_23, li_24, li_25, li_26, li_27, li_28, li_29, li_30, li_31, li_32, li_33, li_34, li_35, li_36, li_37, li_38, li_39, li_40, li_41, li_42, li_43, li_44, li_45, li_46, li_47, li_48, li_49, li_50, li_51, li_52, li_53, li_54, li_55, li_56, li_57, li_58, li_59, li_60, li_61, li_62, li_63, li_70, li_80, li_81, li_95, li_98, li_99, li_100, li_101, li_102, li_103, li_104, li_105, li_106, li_107, li_108, li_109, li_110, li_111, li_112, li_120, li_122, li_124, li_126, li_130, li_168, li_175, li_200, li_255, li_260, li_360, li_1440, li_12345, li_1000000, li_1103515245, neg_nI, nltT, nltF, neqT, neqF, mlt_n, nlt_m, meq_n, neq_m, meq_mT, meq_mF, mlt_mT, mlt_mF, nI_cl, gd_in, gd_T, Option.bind_some, pI_ne, pI_eq, pI_2, pL_1, pL_ne, pL_eq, pL_22, upEq, upN, aN_at, aN_up, nU_e, nU_n, aAdd_n, aAdd_nm, aSub_p, aSub_n, aSub_mn, aSub_mm, aMul_n, aDiv_n, aRem_n, eq_self_iff_true, tB_F]
