/-! the reference reads: an operand -/
theorem m_opensF {s : SS} {tl : Nat} {tp : Nat → Nat} {l h : Nat} (x : MS s tl tp 6 l h) : f_X12_opens s = some (nI 0, pI s 74 25 (nI h)) := by
  obtain ⟨f1, f2, f3⟩ := MS_fault x
  have h26 := x.2.2.1
  unfold f_X12_opens
  simp (disch := omega) only [↓bE (f1), ↓reduceIte, li_0, li_1, li_2, li_3, li_4, li_5, li_6, li_7, li_8, li_9, li_10, li_11, li_12, li_13, li_14, li_15, li_16, li_17, li_18, li_19, li_20, li_21, li_22, li_23, li_24, li_25, li_26, li_27, li_28, li_29, li_30, li_31, li_32, li_33, li_34, li_35, li_36, li_37, li_38, li_39, li_40, li_41, li_42, li_43, li_44, li_45, li_46, li_47, li_48, li_49, li_50, li_51, li_52, li_53, li_54, li_55, li_56, li_57, li_58, li_59, li_60, li_61, li_62, li_63, li_70, li_80, li_81, li_95, li_98, li_99, li_100, li_101, li_102, li_103, li_104, li_105, li_106, li_107, li_108, li_109, li_110, li_111, li_112, li_120, li_122, li_124, li_126, li_130, li_168, li_175, li_200, li_255, li_260, li_360, li_1440, li_12345, li_1000000, li_1103515245, neg_nI, nltT, nltF, neqT, neqF, mlt_n, nlt_m, meq_n, neq_m, meq_mT, meq_mF, mlt_mT, mlt_mF, nI_cl, gd_in, gd_T, Option.bind_some, pI_ne, pI_eq, pI_2, pL_1, pL_ne, pL_eq, pL_22, upEq, upN, aN_at, aN_up, nU_e, nU_n, aAdd_n, aAdd_nm, aSub_p, aSub_n, aSub_mn, aSub_mm, aMul_n, aDiv_n, aRem_n, eq_self_iff_true, h26, f1]
theorem m_opensT {s : SS} {tl : Nat} {tp : Nat → Nat} {o l h : Nat} (x : MS s tl tp o l h) (ho : o < 6) : f_X12_opens s = some (nI 1, pI (pI s 74 26 (nI (o + 1))) 74 24 (nI (h + 1))) := by
  have h26 := x.2.2.1
  have h24 := x.1
  unfold f_X12_opens
  simp (disch := omega) only [↓reduceIte, li_0, li_1, li_2, li_3, li_4, li_5, li_6, li_7, li_8, li_9, li_10, li_11, li_12, li_13, li_14, li_15, li_16, li_17, li_18, li_19, li_20, li_21, li_22, li_23, li_24, li_25, li_26, li_27, li_28, li_29, li_30, li_31, li_32, li_33, li_34, li_35, li_36, li_37, li_38, li_39, li_40, li_41, li_42, li_43, li_44, li_45, li_46, li_47, li_48, li_49, li_50, li_51, li_52, li_53, li_54, li_55, li_56, li_57, li_58, li_59, li_60, li_61, li_62, li_63, li_70, li_80, li_81, li_95, li_98, li_99, li_100, li_101, li_102, li_103, li_104, li_105, li_106, li_107, li_108, li_109, li_110, li_111, li_112, li_120, li_122, li_124, li_126, li_130, li_168, li_175, li_200, li_255, li_260, li_360, li_1440, li_12345, li_1000000, li_1103515245, neg_nI, nltT, nltF, neqT, neqF, mlt_n, nlt_m, meq_n, neq_m, meq_mT, meq_mF, mlt_mT, mlt_mF, nI_cl, gd_in, gd_T, Option.bind_some, pI_ne, pI_eq, pI_2, pL_1, pL_ne, pL_eq, pL_22, upEq, upN, aN_at, aN_up, nU_e, nU_n, aAdd_n, aAdd_nm, aSub_p, aSub_n, aSub_mn, aSub_mm, aMul_n, aDiv_n, aRem_n, eq_self_iff_true, h26, h24]
theorem id_no {c : Nat} (h : dgF c = true ∨ c = 40 ∨ c = 33 ∨ c = 45) : idF c = none := by
  have q : (48 ≤ c ∧ c ≤ 57) ∨ c = 40 ∨ c = 33 ∨ c = 45 := by
    rcases h with h | h
    · unfold dgF at h
      exact Or.inl (of_decide_eq_true h)
    · exact Or.inr h
  unfold idF
  rw [if_neg (by omega), if_neg (by omega), if_neg (by omega), if_neg (by omega), if_neg (by omega), if_neg (by omega)]
theorem m_opS {tl : Nat} {tp : Nat → Nat} {K : Option (Nat → Rs)} {o : Nat} {rc : Nat → SS → Option SS} (ht : tl ≤ 120) (hp : ∀ k, tp k ≤ 255) (ho : o ≤ 6) (hK0 : K = none → o = 6) (hK1 : ∀ Y, K = some Y → o < 6 ∧ PX (tkF tl tp) Y ∧ MIr tl tp (o + 1) (rc 5) (eiS (tkF tl tp) Y) ∧ MIr tl tp (o + 1) (rc 0) Y) : MIr tl tp o (f_X12_operand rc) (opS (tkF tl tp) K) := by
  intro s l h x
  have hk := MS_look x ht
  have h7 := x.2.2.2.2.2.2.1
  have h8 := x.2.2.2.2.2.2.2
  have h25 := x.2.1
  have nm := m_name (tl := tl) hp h s
  have k33 := lk_eq (tl := tl) hp h 33 (by omega)
  have k45 := lk_eq (tl := tl) hp h 45 (by omega)
  have k40 := lk_eq (tl := tl) hp h 40 (by omega)
  unfold opS
  by_cases cd : dgF (tkF tl tp h) = true
  · rw [if_pos cd]
    obtain ⟨c1, c2, c3, c4⟩ := dg_lt cd
    have e33 : tkF tl tp h ≠ 33 := by omega
    have e45 : tkF tl tp h ≠ 45 := by omega
    have e40 : tkF tl tp h ≠ 40 := by omega
    rw [id_no (Or.inl cd)] at nm
    obtain ⟨s', a1, a2, a3, a4, a5⟩ := m_fig (o := o) ht hp 4 0 fuel0 0 s l h (by omega) (by rw [fuel0_eq]; omega) x (Or.inr ⟨by omega, cd⟩)
    have lt : h < (nmF (tkF tl tp) 4 0 h).2 := by
      rw [nmF, if_pos cd]
      exact nm_mono _ _ _ _
    have run : f_X12_operand rc s = some s' := by
      unfold f_X12_operand
      simp (disch := omega) only [↓bE (hk), ↓bE (nm), ↓reduceIte, li_0, li_1, li_2, li_3, li_4, li_5, li_6, li_7, li_8, li_9, li_10, li_11, li_12, li_13, li_14, li_15, li_16, li_17, li_18, li_19, li_20, li_21, li_22, li_23, li_24, li_25, li_26, li_27, li_28, li_29, li_30, li_31, li_32, li_33, li_34, li_35, li_36, li_37, li_38, li_39, li_40, li_41, li_42, li_43, li_44, li_45, li_46, li_47, li_48, li_49, li_50, li_51, li_52, li_53, li_54, li_55, li_56, li_57, li_58, li_59, li_60, li_61, li_62, li_63, li_70, li_80, li_81, li_95, li_98, li_99, li_100, li_101, li_102, li_103, li_104, li_105, li_106, li_107, li_108, li_109, li_110, li_111, li_112, li_120, li_122, li_124, li_126, li_130, li_168, li_175, li_200, li_255, li_260, li_360, li_1440, li_12345, li_1000000, li_1103515245, neg_nI, nltT, nltF, neqT, neqF, mlt_n, nlt_m, meq_n, neq_m, meq_mT, meq_mF, mlt_mT, mlt_mF, nI_cl, gd_in, gd_T, Option.bind_some, pI_ne, pI_eq, pI_2, pL_1, pL_ne, pL_eq, pL_22, upEq, upN, aN_at, aN_up, nU_e, nU_n, aAdd_n, aAdd_nm, aSub_p, aSub_n, aSub_mn, aSub_mm, aMul_n, aDiv_n, aRem_n, eq_self_iff_true, k33, k45, k40, e33, e45, e40, f_X12_figure]
      rw [a1]
      rfl
    cases hx : dgF (tkF tl tp (nmF (tkF tl tp) 4 0 h).2) with
    | false =>
      obtain ⟨b1, b2⟩ := a4 hx
      exact ⟨s', l + 1, run, a2, Or.inl ⟨rfl, rfl, b1, b2, by show l + 1 + h ≤ l + (nmF (tkF tl tp) 4 0 h).2; omega⟩⟩
    | true =>
      exact ⟨s', l + 1, run, a2, Or.inr ⟨Or.inr rfl, a5 hx, by omega, by show l + 1 + h ≤ l + (nmF (tkF tl tp) 4 0 h).2 + 1; omega⟩⟩
  rw [if_neg cd]
  have cdf := Bool.eq_false_iff.mpr cd
  by_cases e40 : tkF tl tp h = 40
  · rw [if_pos e40]
    obtain ⟨l1, l2⟩ := tk_lt e40 (by omega)
    rw [id_no (Or.inr (Or.inl e40))] at nm
    have lv := lk_of hp e40 (by omega)
    rw [lv] at nm hk
    cases K with
    | none =>
      have e6 := hK0 rfl
      subst e6
      obtain ⟨f1, f2, f3⟩ := MS_fault x
      have op := m_opensF x
      refine ⟨_, l, ?_, f3, Or.inr ⟨Or.inl rfl, f2, Nat.le_refl _, by show l + h ≤ l + h + 1; omega⟩⟩
      unfold f_X12_operand
      simp (disch := omega) only [↓bE (hk), ↓bE (nm), ↓bE (op), ↓reduceIte, li_0, li_1, li_2, li_3, li_4, li_5, li_6, li_7, li_8, li_9, li_10, li_11, li_12, li_13, li_14, li_15, li_16, li_17, li_18, li_19, li_20, li_21, li_22, li_23, li_24, li_25, li_26, li_27, li_28, li_29, li_30, li_31, li_32, li_33, li_34, li_35, li_36, li_37, li_38, li_39, li_40, li_41, li_42, li_43, li_44, li_45, li_46, li_47, li_48, li_49, li_50, li_51, li_52, li_53, li_54, li_55, li_56, li_57, li_58, li_59, li_60, li_61, li_62, li_63, li_70, li_80, li_81, li_95, li_98, li_99, li_100, li_101, li_102, li_103, li_104, li_105, li_106, li_107, li_108, li_109, li_110, li_111, li_112, li_120, li_122, li_124, li_126, li_130, li_168, li_175, li_200, li_255, li_260, li_360, li_1440, li_12345, li_1000000, li_1103515245, neg_nI, nltT, nltF, neqT, neqF, mlt_n, nlt_m, meq_n, neq_m, meq_mT, meq_mF, mlt_mT, mlt_mF, nI_cl, gd_in, gd_T, Option.bind_some, pI_ne, pI_eq, pI_2, pL_1, pL_ne, pL_eq, pL_22, upEq, upN, aN_at, aN_up, nU_e, nU_n, aAdd_n, aAdd_nm, aSub_p, aSub_n, aSub_mn, aSub_mm, aMul_n, aDiv_n, aRem_n, eq_self_iff_true]
    | some Y =>
      obtain ⟨o6, pY, q1, q2⟩ := hK1 Y rfl
      have pE := PX_eiS pY (h + 1)
      have op := m_opensT x o6
      obtain ⟨y1, y2⟩ := MS_at x (o + 1) (h + 1) (by omega) (by omega)
      obtain ⟨s1, n1, b1, b2, b3⟩ := q1 _ l (h + 1) y1
      simp only
      rcases b3 with ⟨w1, w2, w3, w4, w5⟩ | ⟨w1, w2, w3, w4⟩
      · have hk1 := MS_look w3 ht
        have w25 := w3.2.1
        have w24 := w3.1
        have w26 := w3.2.2.1
        have w7 := w3.2.2.2.2.2.2.1
        have w8 := w3.2.2.2.2.2.2.2
        have w41 := w4.1
        by_cases c : tkF tl tp (eiS (tkF tl tp) Y (h + 1)).2.2.2 = 41
        · rw [if_pos ⟨w1, c⟩]
          obtain ⟨t1, t2⟩ := tk_lt c (by omega)
          obtain ⟨z1, z2⟩ := MS_h w3 ((eiS (tkF tl tp) Y (h + 1)).2.2.2 + 1) (by omega) (by omega)
          obtain ⟨z3, z4⟩ := MS_o z1 o
          refine ⟨_, n1, ?_, FrM_le (FrM_tr y2 (FrM_tr b2 (FrM_tr z2 z4 (Nat.le_refl _)) (by omega)) (Nat.le_refl _)) (Nat.le_refl _), Or.inl ⟨rfl, rfl, z3, SD_F (SD_F w4 z2 (Nat.le_refl _)) z4 (Nat.le_refl _), by show n1 + h ≤ l + ((eiS (tkF tl tp) Y (h + 1)).2.2.2 + 1); omega⟩⟩
          rw [lk_of hp c (by omega)] at hk1
          unfold f_X12_operand
          simp (disch := omega) only [↓bE (hk), ↓bE (nm), ↓bE (op), ↓bE (b1), ↓bE (hk1), ↓reduceIte, li_0, li_1, li_2, li_3, li_4, li_5, li_6, li_7, li_8, li_9, li_10, li_11, li_12, li_13, li_14, li_15, li_16, li_17, li_18, li_19, li_20, li_21, li_22, li_23, li_24, li_25, li_26, li_27, li_28, li_29, li_30, li_31, li_32, li_33, li_34, li_35, li_36, li_37, li_38, li_39, li_40, li_41, li_42, li_43, li_44, li_45, li_46, li_47, li_48, li_49, li_50, li_51, li_52, li_53, li_54, li_55, li_56, li_57, li_58, li_59, li_60, li_61, li_62, li_63, li_70, li_80, li_81, li_95, li_98, li_99, li_100, li_101, li_102, li_103, li_104, li_105, li_106, li_107, li_108, li_109, li_110, li_111, li_112, li_120, li_122, li_124, li_126, li_130, li_168, li_175, li_200, li_255, li_260, li_360, li_1440, li_12345, li_1000000, li_1103515245, neg_nI, nltT, nltF, neqT, neqF, mlt_n, nlt_m, meq_n, neq_m, meq_mT, meq_mF, mlt_mT, mlt_mF, nI_cl, gd_in, gd_T, Option.bind_some, pI_ne, pI_eq, pI_2, pL_1, pL_ne, pL_eq, pL_22, upEq, upN, aN_at, aN_up, nU_e, nU_n, aAdd_n, aAdd_nm, aSub_p, aSub_n, aSub_mn, aSub_mm, aMul_n, aDiv_n, aRem_n, eq_self_iff_true, w25, w24, w26, Nat.add_sub_cancel]
        · rw [if_neg (fun z => c z.2)]
          obtain ⟨f1, f2, f3⟩ := MS_fault w3
          refine ⟨_, n1, ?_, FrM_tr y2 (FrM_tr b2 f3 (by omega)) (Nat.le_refl _), Or.inr ⟨Or.inl rfl, f2, by omega, by show n1 + h ≤ l + (eiS (tkF tl tp) Y (h + 1)).2.2.2 + 1; omega⟩⟩
          have k41 := lk_eq (tl := tl) hp (eiS (tkF tl tp) Y (h + 1)).2.2.2 41 (by omega)
          unfold f_X12_operand
          simp (disch := omega) only [↓bE (hk), ↓bE (nm), ↓bE (op), ↓bE (b1), ↓bE (hk1), ↓bE (f1), ↓reduceIte, li_0, li_1, li_2, li_3, li_4, li_5, li_6, li_7, li_8, li_9, li_10, li_11, li_12, li_13, li_14, li_15, li_16, li_17, li_18, li_19, li_20, li_21, li_22, li_23, li_24, li_25, li_26, li_27, li_28, li_29, li_30, li_31, li_32, li_33, li_34, li_35, li_36, li_37, li_38, li_39, li_40, li_41, li_42, li_43, li_44, li_45, li_46, li_47, li_48, li_49, li_50, li_51, li_52, li_53, li_54, li_55, li_56, li_57, li_58, li_59, li_60, li_61, li_62, li_63, li_70, li_80, li_81, li_95, li_98, li_99, li_100, li_101, li_102, li_103, li_104, li_105, li_106, li_107, li_108, li_109, li_110, li_111, li_112, li_120, li_122, li_124, li_126, li_130, li_168, li_175, li_200, li_255, li_260, li_360, li_1440, li_12345, li_1000000, li_1103515245, neg_nI, nltT, nltF, neqT, neqF, mlt_n, nlt_m, meq_n, neq_m, meq_mT, meq_mF, mlt_mT, mlt_mF, nI_cl, gd_in, gd_T, Option.bind_some, pI_ne, pI_eq, pI_2, pL_1, pL_ne, pL_eq, pL_22, upEq, upN, aN_at, aN_up, nU_e, nU_n, aAdd_n, aAdd_nm, aSub_p, aSub_n, aSub_mn, aSub_mm, aMul_n, aDiv_n, aRem_n, eq_self_iff_true, w25, k41, c]
      · have w25 := w2.2.1
        have w6 := w2.2.2.2.2.2
        have cc : ¬ ((eiS (tkF tl tp) Y (h + 1)).1 = true ∧ tkF tl tp (eiS (tkF tl tp) Y (h + 1)).2.2.2 = 41) := by
          intro z
          rcases w1 with e | e
          · rw [z.1] at e; cases e
          · have := pE.2.2 z.1 e
            rw [z.2] at this
            cases this
        rw [if_neg cc]
        refine ⟨s1, n1, ?_, FrM_tr y2 b2 (Nat.le_refl _), Or.inr ⟨Or.inl rfl, w2, by omega, by show n1 + h ≤ l + (eiS (tkF tl tp) Y (h + 1)).2.2.2 + 1; omega⟩⟩
        unfold f_X12_operand
        simp (disch := omega) only [↓bE (hk), ↓bE (nm), ↓bE (op), ↓bE (b1), ↓reduceIte, li_0, li_1, li_2, li_3, li_4, li_5, li_6, li_7, li_8, li_9, li_10, li_11, li_12, li_13, li_14, li_15, li_16, li_17, li_18, li_19, li_20, li_21, li_22, li_23, li_24, li_25, li_26, li_27, li_28, li_29, li_30, li_31, li_32, li_33, li_34, li_35, li_36, li_37, li_38, li_39, li_40, li_41, li_42, li_43, li_44, li_45, li_46, li_47, li_48, li_49, li_50, li_51, li_52, li_53, li_54, li_55, li_56, li_57, li_58, li_59, li_60, li_61, li_62, li_63, li_70, li_80, li_81, li_95, li_98, li_99, li_100, li_101, li_102, li_103, li_104, li_105, li_106, li_107, li_108, li_109, li_110, li_111, li_112, li_120, li_122, li_124, li_126, li_130, li_168, li_175, li_200, li_255, li_260, li_360, li_1440, li_12345, li_1000000, li_1103515245, neg_nI, nltT, nltF, neqT, neqF, mlt_n, nlt_m, meq_n, neq_m, meq_mT, meq_mF, mlt_mT, mlt_mF, nI_cl, gd_in, gd_T, Option.bind_some, pI_ne, pI_eq, pI_2, pL_1, pL_ne, pL_eq, pL_22, upEq, upN, aN_at, aN_up, nU_e, nU_n, aAdd_n, aAdd_nm, aSub_p, aSub_n, aSub_mn, aSub_mm, aMul_n, aDiv_n, aRem_n, eq_self_iff_true, w25]
  rw [if_neg e40]
  by_cases e33 : tkF tl tp h = 33 ∨ tkF tl tp h = 45
  · rw [if_pos e33]
    obtain ⟨l1, l2⟩ := tk_lt (rfl : tkF tl tp h = tkF tl tp h) (by omega)
    rw [id_no (Or.inr (Or.inr e33))] at nm
    cases K with
    | none =>
      have e6 := hK0 rfl
      subst e6
      obtain ⟨f1, f2, f3⟩ := MS_fault x
      have op := m_opensF x
      refine ⟨_, l, ?_, f3, Or.inr ⟨Or.inl rfl, f2, Nat.le_refl _, by show l + h ≤ l + h + 1; omega⟩⟩
      unfold f_X12_operand
      rcases e33 with e | e
      · rw [lk_of hp e (by omega)] at nm hk
        simp (disch := omega) only [↓bE (hk), ↓bE (nm), ↓bE (op), ↓reduceIte, li_0, li_1, li_2, li_3, li_4, li_5, li_6, li_7, li_8, li_9, li_10, li_11, li_12, li_13, li_14, li_15, li_16, li_17, li_18, li_19, li_20, li_21, li_22, li_23, li_24, li_25, li_26, li_27, li_28, li_29, li_30, li_31, li_32, li_33, li_34, li_35, li_36, li_37, li_38, li_39, li_40, li_41, li_42, li_43, li_44, li_45, li_46, li_47, li_48, li_49, li_50, li_51, li_52, li_53, li_54, li_55, li_56, li_57, li_58, li_59, li_60, li_61, li_62, li_63, li_70, li_80, li_81, li_95, li_98, li_99, li_100, li_101, li_102, li_103, li_104, li_105, li_106, li_107, li_108, li_109, li_110, li_111, li_112, li_120, li_122, li_124, li_126, li_130, li_168, li_175, li_200, li_255, li_260, li_360, li_1440, li_12345, li_1000000, li_1103515245, neg_nI, nltT, nltF, neqT, neqF, mlt_n, nlt_m, meq_n, neq_m, meq_mT, meq_mF, mlt_mT, mlt_mF, nI_cl, gd_in, gd_T, Option.bind_some, pI_ne, pI_eq, pI_2, pL_1, pL_ne, pL_eq, pL_22, upEq, upN, aN_at, aN_up, nU_e, nU_n, aAdd_n, aAdd_nm, aSub_p, aSub_n, aSub_mn, aSub_mm, aMul_n, aDiv_n, aRem_n, eq_self_iff_true]
      · rw [lk_of hp e (by omega)] at nm hk
        simp (disch := omega) only [↓bE (hk), ↓bE (nm), ↓bE (op), ↓reduceIte, li_0, li_1, li_2, li_3, li_4, li_5, li_6, li_7, li_8, li_9, li_10, li_11, li_12, li_13, li_14, li_15, li_16, li_17, li_18, li_19, li_20, li_21, li_22, li_23, li_24, li_25, li_26, li_27, li_28, li_29, li_30, li_31, li_32, li_33, li_34, li_35, li_36, li_37, li_38, li_39, li_40, li_41, li_42, li_43, li_44, li_45, li_46, li_47, li_48, li_49, li_50, li_51, li_52, li_53, li_54, li_55, li_56, li_57, li_58, li_59, li_60, li_61, li_62, li_63, li_70, li_80, li_81, li_95, li_98, li_99, li_100, li_101, li_102, li_103, li_104, li_105, li_106, li_107, li_108, li_109, li_110, li_111, li_112, li_120, li_122, li_124, li_126, li_130, li_168, li_175, li_200, li_255, li_260, li_360, li_1440, li_12345, li_1000000, li_1103515245, neg_nI, nltT, nltF, neqT, neqF, mlt_n, nlt_m, meq_n, neq_m, meq_mT, meq_mF, mlt_mT, mlt_mF, nI_cl, gd_in, gd_T, Option.bind_some, pI_ne, pI_eq, pI_2, pL_1, pL_ne, pL_eq, pL_22, upEq, upN, aN_at, aN_up, nU_e, nU_n, aAdd_n, aAdd_nm, aSub_p, aSub_n, aSub_mn, aSub_mm, aMul_n, aDiv_n, aRem_n, eq_self_iff_true]
    | some Y =>
      obtain ⟨o6, pY, q1, q2⟩ := hK1 Y rfl
      have pE := pY (h + 1)
      have op := m_opensT x o6
      obtain ⟨y1, y2⟩ := MS_at x (o + 1) (h + 1) (by omega) (by omega)
      obtain ⟨s1, n1, b1, b2, b3⟩ := q2 _ l (h + 1) y1
      simp only
      obtain ⟨sc, hsc, hsc3, hs33⟩ : ∃ sc, (sc = 3 ∨ sc = 4) ∧ (if sc = 3 then nI 33 else nI 95) = (if tkF tl tp h = 33 then nI 33 else nI 95) ∧ ∀ q s2, s1.1 74 26 = q → f_X12_addStep (nI sc) (nI 0) (pI s1 74 26 (aSub q (nI 1))) = some s2 → f_X12_operand rc s = some s2 := by
        rcases e33 with e | e
        · rw [lk_of hp e (by omega)] at nm hk
          refine ⟨3, Or.inl rfl, by rw [if_pos rfl, if_pos e], fun q s2 hq ha => ?_⟩
          unfold f_X12_operand
          simp (disch := omega) only [↓bE (hk), ↓bE (nm), ↓bE (op), ↓bE (b1), ↓reduceIte, li_0, li_1, li_2, li_3, li_4, li_5, li_6, li_7, li_8, li_9, li_10, li_11, li_12, li_13, li_14, li_15, li_16, li_17, li_18, li_19, li_20, li_21, li_22, li_23, li_24, li_25, li_26, li_27, li_28, li_29, li_30, li_31, li_32, li_33, li_34, li_35, li_36, li_37, li_38, li_39, li_40, li_41, li_42, li_43, li_44, li_45, li_46, li_47, li_48, li_49, li_50, li_51, li_52, li_53, li_54, li_55, li_56, li_57, li_58, li_59, li_60, li_61, li_62, li_63, li_70, li_80, li_81, li_95, li_98, li_99, li_100, li_101, li_102, li_103, li_104, li_105, li_106, li_107, li_108, li_109, li_110, li_111, li_112, li_120, li_122, li_124, li_126, li_130, li_168, li_175, li_200, li_255, li_260, li_360, li_1440, li_12345, li_1000000, li_1103515245, neg_nI, nltT, nltF, neqT, neqF, mlt_n, nlt_m, meq_n, neq_m, meq_mT, meq_mF, mlt_mT, mlt_mF, nI_cl, gd_in, gd_T, Option.bind_some, pI_ne, pI_eq, pI_2, pL_1, pL_ne, pL_eq, pL_22, upEq, upN, aN_at, aN_up, nU_e, nU_n, aAdd_n, aAdd_nm, aSub_p, aSub_n, aSub_mn, aSub_mm, aMul_n, aDiv_n, aRem_n, eq_self_iff_true, hq]
          rw [ha]
          rfl
        · rw [lk_of hp e (by omega)] at nm hk
          refine ⟨4, Or.inr rfl, by rw [if_neg (by omega), if_neg (by omega)], fun q s2 hq ha => ?_⟩
          unfold f_X12_operand
          simp (disch := omega) only [↓bE (hk), ↓bE (nm), ↓bE (op), ↓bE (b1), ↓reduceIte, li_0, li_1, li_2, li_3, li_4, li_5, li_6, li_7, li_8, li_9, li_10, li_11, li_12, li_13, li_14, li_15, li_16, li_17, li_18, li_19, li_20, li_21, li_22, li_23, li_24, li_25, li_26, li_27, li_28, li_29, li_30, li_31, li_32, li_33, li_34, li_35, li_36, li_37, li_38, li_39, li_40, li_41, li_42, li_43, li_44, li_45, li_46, li_47, li_48, li_49, li_50, li_51, li_52, li_53, li_54, li_55, li_56, li_57, li_58, li_59, li_60, li_61, li_62, li_63, li_70, li_80, li_81, li_95, li_98, li_99, li_100, li_101, li_102, li_103, li_104, li_105, li_106, li_107, li_108, li_109, li_110, li_111, li_112, li_120, li_122, li_124, li_126, li_130, li_168, li_175, li_200, li_255, li_260, li_360, li_1440, li_12345, li_1000000, li_1103515245, neg_nI, nltT, nltF, neqT, neqF, mlt_n, nlt_m, meq_n, neq_m, meq_mT, meq_mF, mlt_mT, mlt_mF, nI_cl, gd_in, gd_T, Option.bind_some, pI_ne, pI_eq, pI_2, pL_1, pL_ne, pL_eq, pL_22, upEq, upN, aN_at, aN_up, nU_e, nU_n, aAdd_n, aAdd_nm, aSub_p, aSub_n, aSub_mn, aSub_mm, aMul_n, aDiv_n, aRem_n, eq_self_iff_true, hq]
          rw [ha]
          rfl
      rcases b3 with ⟨w1, w2, w3, w4, w5⟩ | ⟨w1, w2, w3, w4⟩
      · have w26 := w3.2.2.1
        have w7 := w3.2.2.2.2.2.2.1
        have w8 := w3.2.2.2.2.2.2.2
        have w41 := w4.1
        rw [if_pos w1]
        obtain ⟨z1, z2⟩ := MS_o w3 o
        obtain ⟨a1, a2⟩ := MS_add z1 ht sc (by omega) (nI 0) (by omega)
        have fr := aS3_fr (pI s1 74 26 (nI o)) n1 sc (nI 0)
        refine ⟨_, n1 + 1, hs33 _ _ w26 (by rw [aSub_p (by omega), Nat.add_sub_cancel]; exact a1), FrM_tr y2 (FrM_tr b2 (FrM_tr z2 fr (Nat.le_refl _)) (by omega)) (Nat.le_refl _), Or.inl ⟨rfl, w2, a2, ?_, by show n1 + 1 + h ≤ l + (Y (h + 1)).2.2.2; omega⟩⟩
        have := SD_un (SD_F (SD_F w4 z2 (Nat.le_refl _)) fr (Nat.le_refl _)) (aS3_90 _ _ _ _) hsc
        rw [hsc3] at this
        exact this
      · have w6 := w2.2.2.2.2.2
        obtain ⟨z1, z2⟩ := MX_o w2 (aSub (s1.1 74 26) (nI 1))
        obtain ⟨a1, a2⟩ := MX_add z1 (by omega) sc (by omega) (nI 0)
        have fr := aS3_fr (pI s1 74 26 (aSub (s1.1 74 26) (nI 1))) n1 sc (nI 0)
        refine ⟨_, n1 + 1, hs33 _ _ rfl a1, FrM_tr y2 (FrM_tr b2 (FrM_tr z2 fr (Nat.le_refl _)) (by omega)) (Nat.le_refl _), Or.inr ?_⟩
        by_cases c : (Y (h + 1)).1 = true
        · rw [if_pos c]
          have w1 : (Y (h + 1)).2.1 = true := by
            rcases w1 with e | e
            · rw [c] at e; cases e
            · exact e
          exact ⟨Or.inr w1, a2, by omega, by show n1 + 1 + h ≤ l + (Y (h + 1)).2.2.2 + 1; omega⟩
        · rw [if_neg c]
          exact ⟨Or.inl rfl, a2, by omega, by show n1 + 1 + h ≤ l + (Y (h + 1)).2.2.2 + 1; omega⟩
  rw [if_neg e33]
  cases hi : idF (tkF tl tp h) with
  | some i =>
    rw [hi] at nm
    have hi6 := (id_iff _ _).mp hi
    obtain ⟨l1, l2⟩ := tk_lt (rfl : tkF tl tp h = tkF tl tp h) (by omega)
    simp only at nm ⊢
    have ad : f_X12_addStep (nI 2) (nI i) s = some (aS3 s l 2 (nI i)) := m_addStep x.2.2.2.1 (by omega) 2 (by omega) (nI i)
    have fr := aS3_fr s l 2 (nI i)
    have fr2 : FrM l (aS3 s l 2 (nI i)) (pI (aS3 s l 2 (nI i)) 74 24 (nI (h + 1))) := ⟨fun c a b d => by simp (disch := omega) only [↓reduceIte, li_0, li_1, li_2, li_3, li_4, li_5, li_6, li_7, li_8, li_9, li_10, li_11, li_12, li_13, li_14, li_15, li_16, li_17, li_18, li_19, li_20, li_21, li_22, li_23, li_24, li_25, li_26, li_27, li_28, li_29, li_30, li_31, li_32, li_33, li_34, li_35, li_36, li_37, li_38, li_39, li_40, li_41, li_42, li_43, li_44, li_45, li_46, li_47, li_48, li_49, li_50, li_51, li_52, li_53, li_54, li_55, li_56, li_57, li_58, li_59, li_60, li_61, li_62, li_63, li_70, li_80, li_81, li_95, li_98, li_99, li_100, li_101, li_102, li_103, li_104, li_105, li_106, li_107, li_108, li_109, li_110, li_111, li_112, li_120, li_122, li_124, li_126, li_130, li_168, li_175, li_200, li_255, li_260, li_360, li_1440, li_12345, li_1000000, li_1103515245, neg_nI, nltT, nltF, neqT, neqF, mlt_n, nlt_m, meq_n, neq_m, meq_mT, meq_mF, mlt_mT, mlt_mF, nI_cl, gd_in, gd_T, Option.bind_some, pI_ne, pI_eq, pI_2, pL_1, pL_ne, pL_eq, pL_22, upEq, upN, aN_at, aN_up, nU_e, nU_n, aAdd_n, aAdd_nm, aSub_p, aSub_n, aSub_mn, aSub_mm, aMul_n, aDiv_n, aRem_n, eq_self_iff_true], fun k a => by simp (disch := omega) only [↓reduceIte, li_0, li_1, li_2, li_3, li_4, li_5, li_6, li_7, li_8, li_9, li_10, li_11, li_12, li_13, li_14, li_15, li_16, li_17, li_18, li_19, li_20, li_21, li_22, li_23, li_24, li_25, li_26, li_27, li_28, li_29, li_30, li_31, li_32, li_33, li_34, li_35, li_36, li_37, li_38, li_39, li_40, li_41, li_42, li_43, li_44, li_45, li_46, li_47, li_48, li_49, li_50, li_51, li_52, li_53, li_54, li_55, li_56, li_57, li_58, li_59, li_60, li_61, li_62, li_63, li_70, li_80, li_81, li_95, li_98, li_99, li_100, li_101, li_102, li_103, li_104, li_105, li_106, li_107, li_108, li_109, li_110, li_111, li_112, li_120, li_122, li_124, li_126, li_130, li_168, li_175, li_200, li_255, li_260, li_360, li_1440, li_12345, li_1000000, li_1103515245, neg_nI, nltT, nltF, neqT, neqF, mlt_n, nlt_m, meq_n, neq_m, meq_mT, meq_mF, mlt_mT, mlt_mF, nI_cl, gd_in, gd_T, Option.bind_some, pI_ne, pI_eq, pI_2, pL_1, pL_ne, pL_eq, pL_22, upEq, upN, aN_at, aN_up, nU_e, nU_n, aAdd_n, aAdd_nm, aSub_p, aSub_n, aSub_mn, aSub_mm, aMul_n, aDiv_n, aRem_n, eq_self_iff_true], fun k a => ⟨by simp (disch := omega) only [↓reduceIte, li_0, li_1, li_2, li_3, li_4, li_5, li_6, li_7, li_8, li_9, li_10, li_11, li_12, li_13, li_14, li_15, li_16, li_17, li_18, li_19, li_20, li_21, li_22, li_23, li_24, li_25, li_26, li_27, li_28, li_29, li_30, li_31, li_32, li_33, li_34, li_35, li_36, li_37, li_38, li_39, li_40, li_41, li_42, li_43, li_44, li_45, li_46, li_47, li_48, li_49, li_50, li_51, li_52, li_53, li_54, li_55, li_56, li_57, li_58, li_59, li_60, li_61, li_62, li_63, li_70, li_80, li_81, li_95, li_98, li_99, li_100, li_101, li_102, li_103, li_104, li_105, li_106, li_107, li_108, li_109, li_110, li_111, li_112, li_120, li_122, li_124, li_126, li_130, li_168, li_175, li_200, li_255, li_260, li_360, li_1440, li_12345, li_1000000, li_1103515245, neg_nI, nltT, nltF, neqT, neqF, mlt_n, nlt_m, meq_n, neq_m, meq_mT, meq_mF, mlt_mT, mlt_mF, nI_cl, gd_in, gd_T, Option.bind_some, pI_ne, pI_eq, pI_2, pL_1, pL_ne, pL_eq, pL_22, upEq, upN, aN_at, aN_up, nU_e, nU_n, aAdd_n, aAdd_nm, aSub_p, aSub_n, aSub_mn, aSub_mm, aMul_n, aDiv_n, aRem_n, eq_self_iff_true], by simp (disch := omega) only [↓reduceIte, li_0, li_1, li_2, li_3, li_4, li_5, li_6, li_7, li_8, li_9, li_10, li_11, li_12, li_13, li_14, li_15, li_16, li_17, li_18, li_19, li_20, li_21, li_22, li_23, li_24, li_25, li_26, li_27, li_28, li_29, li_30, li_31, li_32, li_33, li_34, li_35, li_36, li_37, li_38, li_39, li_40, li_41, li_42, li_43, li_44, li_45, li_46, li_47, li_48, li_49, li_50, li_51, li_52, li_53, li_54, li_55, li_56, li_57, li_58, li_59, li_60, li_61, li_62, li_63, li_70, li_80, li_81, li_95, li_98, li_99, li_100, li_101, li_102, li_103, li_104, li_105, li_106, li_107, li_108, li_109, li_110, li_111, li_112, li_120, li_122, li_124, li_126, li_130, li_168, li_175, li_200, li_255, li_260, li_360, li_1440, li_12345, li_1000000, li_1103515245, neg_nI, nltT, nltF, neqT, neqF, mlt_n, nlt_m, meq_n, neq_m, meq_mT, meq_mF, mlt_mT, mlt_mF, nI_cl, gd_in, gd_T, Option.bind_some, pI_ne, pI_eq, pI_2, pL_1, pL_ne, pL_eq, pL_22, upEq, upN, aN_at, aN_up, nU_e, nU_n, aAdd_n, aAdd_nm, aSub_p, aSub_n, aSub_mn, aSub_mm, aMul_n, aDiv_n, aRem_n, eq_self_iff_true]⟩, rfl⟩
    have e24 : (aS3 s l 2 (nI i)).1 74 24 = nI h := by
      unfold aS3
      simp (disch := omega) only [↓reduceIte, li_0, li_1, li_2, li_3, li_4, li_5, li_6, li_7, li_8, li_9, li_10, li_11, li_12, li_13, li_14, li_15, li_16, li_17, li_18, li_19, li_20, li_21, li_22, li_23, li_24, li_25, li_26, li_27, li_28, li_29, li_30, li_31, li_32, li_33, li_34, li_35, li_36, li_37, li_38, li_39, li_40, li_41, li_42, li_43, li_44, li_45, li_46, li_47, li_48, li_49, li_50, li_51, li_52, li_53, li_54, li_55, li_56, li_57, li_58, li_59, li_60, li_61, li_62, li_63, li_70, li_80, li_81, li_95, li_98, li_99, li_100, li_101, li_102, li_103, li_104, li_105, li_106, li_107, li_108, li_109, li_110, li_111, li_112, li_120, li_122, li_124, li_126, li_130, li_168, li_175, li_200, li_255, li_260, li_360, li_1440, li_12345, li_1000000, li_1103515245, neg_nI, nltT, nltF, neqT, neqF, mlt_n, nlt_m, meq_n, neq_m, meq_mT, meq_mF, mlt_mT, mlt_mF, nI_cl, gd_in, gd_T, Option.bind_some, pI_ne, pI_eq, pI_2, pL_1, pL_ne, pL_eq, pL_22, upEq, upN, aN_at, aN_up, nU_e, nU_n, aAdd_n, aAdd_nm, aSub_p, aSub_n, aSub_mn, aSub_mm, aMul_n, aDiv_n, aRem_n, eq_self_iff_true, x.1]
    refine ⟨pI (aS3 s l 2 (nI i)) 74 24 (nI (h + 1)), l + 1, ?_, FrM_tr fr fr2 (Nat.le_refl _), Or.inl ⟨rfl, rfl, ?_, ?_, by show l + 1 + h ≤ l + (h + 1); omega⟩⟩
    · unfold f_X12_operand
      simp (disch := omega) only [↓bE (hk), ↓bE (nm), ↓bE (ad), ↓reduceIte, li_0, li_1, li_2, li_3, li_4, li_5, li_6, li_7, li_8, li_9, li_10, li_11, li_12, li_13, li_14, li_15, li_16, li_17, li_18, li_19, li_20, li_21, li_22, li_23, li_24, li_25, li_26, li_27, li_28, li_29, li_30, li_31, li_32, li_33, li_34, li_35, li_36, li_37, li_38, li_39, li_40, li_41, li_42, li_43, li_44, li_45, li_46, li_47, li_48, li_49, li_50, li_51, li_52, li_53, li_54, li_55, li_56, li_57, li_58, li_59, li_60, li_61, li_62, li_63, li_70, li_80, li_81, li_95, li_98, li_99, li_100, li_101, li_102, li_103, li_104, li_105, li_106, li_107, li_108, li_109, li_110, li_111, li_112, li_120, li_122, li_124, li_126, li_130, li_168, li_175, li_200, li_255, li_260, li_360, li_1440, li_12345, li_1000000, li_1103515245, neg_nI, nltT, nltF, neqT, neqF, mlt_n, nlt_m, meq_n, neq_m, meq_mT, meq_mF, mlt_mT, mlt_mF, nI_cl, gd_in, gd_T, Option.bind_some, pI_ne, pI_eq, pI_2, pL_1, pL_ne, pL_eq, pL_22, upEq, upN, aN_at, aN_up, nU_e, nU_n, aAdd_n, aAdd_nm, aSub_p, aSub_n, aSub_mn, aSub_mm, aMul_n, aDiv_n, aRem_n, eq_self_iff_true, e24]
    · obtain ⟨x1, x2, x3, x4, x5, x6, x7, x8⟩ := x
      unfold aS3
      exact ⟨by simp (disch := omega) only [↓reduceIte, li_0, li_1, li_2, li_3, li_4, li_5, li_6, li_7, li_8, li_9, li_10, li_11, li_12, li_13, li_14, li_15, li_16, li_17, li_18, li_19, li_20, li_21, li_22, li_23, li_24, li_25, li_26, li_27, li_28, li_29, li_30, li_31, li_32, li_33, li_34, li_35, li_36, li_37, li_38, li_39, li_40, li_41, li_42, li_43, li_44, li_45, li_46, li_47, li_48, li_49, li_50, li_51, li_52, li_53, li_54, li_55, li_56, li_57, li_58, li_59, li_60, li_61, li_62, li_63, li_70, li_80, li_81, li_95, li_98, li_99, li_100, li_101, li_102, li_103, li_104, li_105, li_106, li_107, li_108, li_109, li_110, li_111, li_112, li_120, li_122, li_124, li_126, li_130, li_168, li_175, li_200, li_255, li_260, li_360, li_1440, li_12345, li_1000000, li_1103515245, neg_nI, nltT, nltF, neqT, neqF, mlt_n, nlt_m, meq_n, neq_m, meq_mT, meq_mF, mlt_mT, mlt_mF, nI_cl, gd_in, gd_T, Option.bind_some, pI_ne, pI_eq, pI_2, pL_1, pL_ne, pL_eq, pL_22, upEq, upN, aN_at, aN_up, nU_e, nU_n, aAdd_n, aAdd_nm, aSub_p, aSub_n, aSub_mn, aSub_mm, aMul_n, aDiv_n, aRem_n, eq_self_iff_true], by simp (disch := omega) only [↓reduceIte, li_0, li_1, li_2, li_3, li_4, li_5, li_6, li_7, li_8, li_9, li_10, li_11, li_12, li_13, li_14, li_15, li_16, li_17, li_18, li_19, li_20, li_21, li_22, li_23, li_24, li_25, li_26, li_27, li_28, li_29, li_30, li_31, li_32, li_33, li_34, li_35, li_36, li_37, li_38, li_39, li_40, li_41, li_42, li_43, li_44, li_45, li_46, li_47, li_48, li_49, li_50, li_51, li_52, li_53, li_54, li_55, li_56, li_57, li_58, li_59, li_60, li_61, li_62, li_63, li_70, li_80, li_81, li_95, li_98, li_99, li_100, li_101, li_102, li_103, li_104, li_105, li_106, li_107, li_108, li_109, li_110, li_111, li_112, li_120, li_122, li_124, li_126, li_130, li_168, li_175, li_200, li_255, li_260, li_360, li_1440, li_12345, li_1000000, li_1103515245, neg_nI, nltT, nltF, neqT, neqF, mlt_n, nlt_m, meq_n, neq_m, meq_mT, meq_mF, mlt_mT, mlt_mF, nI_cl, gd_in, gd_T, Option.bind_some, pI_ne, pI_eq, pI_2, pL_1, pL_ne, pL_eq, pL_22, upEq, upN, aN_at, aN_up, nU_e, nU_n, aAdd_n, aAdd_nm, aSub_p, aSub_n, aSub_mn, aSub_mm, aMul_n, aDiv_n, aRem_n, eq_self_iff_true, x2], by simp (disch := omega) only [↓reduceIte, li_0, li_1, li_2, li_3, li_4, li_5, li_6, li_7, li_8, li_9, li_10, li_11, li_12, li_13, li_14, li_15, li_16, li_17, li_18, li_19, li_20, li_21, li_22, li_23, li_24, li_25, li_26, li_27, li_28, li_29, li_30, li_31, li_32, li_33, li_34, li_35, li_36, li_37, li_38, li_39, li_40, li_41, li_42, li_43, li_44, li_45, li_46, li_47, li_48, li_49, li_50, li_51, li_52, li_53, li_54, li_55, li_56, li_57, li_58, li_59, li_60, li_61, li_62, li_63, li_70, li_80, li_81, li_95, li_98, li_99, li_100, li_101, li_102, li_103, li_104, li_105, li_106, li_107, li_108, li_109, li_110, li_111, li_112, li_120, li_122, li_124, li_126, li_130, li_168, li_175, li_200, li_255, li_260, li_360, li_1440, li_12345, li_1000000, li_1103515245, neg_nI, nltT, nltF, neqT, neqF, mlt_n, nlt_m, meq_n, neq_m, meq_mT, meq_mF, mlt_mT, mlt_mF, nI_cl, gd_in, gd_T, Option.bind_some, pI_ne, pI_eq, pI_2, pL_1, pL_ne, pL_eq, pL_22, upEq, upN, aN_at, aN_up, nU_e, nU_n, aAdd_n, aAdd_nm, aSub_p, aSub_n, aSub_mn, aSub_mm, aMul_n, aDiv_n, aRem_n, eq_self_iff_true, x3], by simp (disch := omega) only [↓reduceIte, li_0, li_1, li_2, li_3, li_4, li_5, li_6, li_7, li_8, li_9, li_10, li_11, li_12, li_13, li_14, li_15, li_16, li_17, li_18, li_19, li_20, li_21, li_22, li_23, li_24, li_25, li_26, li_27, li_28, li_29, li_30, li_31, li_32, li_33, li_34, li_35, li_36, li_37, li_38, li_39, li_40, li_41, li_42, li_43, li_44, li_45, li_46, li_47, li_48, li_49, li_50, li_51, li_52, li_53, li_54, li_55, li_56, li_57, li_58, li_59, li_60, li_61, li_62, li_63, li_70, li_80, li_81, li_95, li_98, li_99, li_100, li_101, li_102, li_103, li_104, li_105, li_106, li_107, li_108, li_109, li_110, li_111, li_112, li_120, li_122, li_124, li_126, li_130, li_168, li_175, li_200, li_255, li_260, li_360, li_1440, li_12345, li_1000000, li_1103515245, neg_nI, nltT, nltF, neqT, neqF, mlt_n, nlt_m, meq_n, neq_m, meq_mT, meq_mF, mlt_mT, mlt_mF, nI_cl, gd_in, gd_T, Option.bind_some, pI_ne, pI_eq, pI_2, pL_1, pL_ne, pL_eq, pL_22, upEq, upN, aN_at, aN_up, nU_e, nU_n, aAdd_n, aAdd_nm, aSub_p, aSub_n, aSub_mn, aSub_mm, aMul_n, aDiv_n, aRem_n, eq_self_iff_true], by simp (disch := omega) only [↓reduceIte, li_0, li_1, li_2, li_3, li_4, li_5, li_6, li_7, li_8, li_9, li_10, li_11, li_12, li_13, li_14, li_15, li_16, li_17, li_18, li_19, li_20, li_21, li_22, li_23, li_24, li_25, li_26, li_27, li_28, li_29, li_30, li_31, li_32, li_33, li_34, li_35, li_36, li_37, li_38, li_39, li_40, li_41, li_42, li_43, li_44, li_45, li_46, li_47, li_48, li_49, li_50, li_51, li_52, li_53, li_54, li_55, li_56, li_57, li_58, li_59, li_60, li_61, li_62, li_63, li_70, li_80, li_81, li_95, li_98, li_99, li_100, li_101, li_102, li_103, li_104, li_105, li_106, li_107, li_108, li_109, li_110, li_111, li_112, li_120, li_122, li_124, li_126, li_130, li_168, li_175, li_200, li_255, li_260, li_360, li_1440, li_12345, li_1000000, li_1103515245, neg_nI, nltT, nltF, neqT, neqF, mlt_n, nlt_m, meq_n, neq_m, meq_mT, meq_mF, mlt_mT, mlt_mF, nI_cl, gd_in, gd_T, Option.bind_some, pI_ne, pI_eq, pI_2, pL_1, pL_ne, pL_eq, pL_22, upEq, upN, aN_at, aN_up, nU_e, nU_n, aAdd_n, aAdd_nm, aSub_p, aSub_n, aSub_mn, aSub_mm, aMul_n, aDiv_n, aRem_n, eq_self_iff_true, x5], by simp (disch := omega) only [↓reduceIte, li_0, li_1, li_2, li_3, li_4, li_5, li_6, li_7, li_8, li_9, li_10, li_11, li_12, li_13, li_14, li_15, li_16, li_17, li_18, li_19, li_20, li_21, li_22, li_23, li_24, li_25, li_26, li_27, li_28, li_29, li_30, li_31, li_32, li_33, li_34, li_35, li_36, li_37, li_38, li_39, li_40, li_41, li_42, li_43, li_44, li_45, li_46, li_47, li_48, li_49, li_50, li_51, li_52, li_53, li_54, li_55, li_56, li_57, li_58, li_59, li_60, li_61, li_62, li_63, li_70, li_80, li_81, li_95, li_98, li_99, li_100, li_101, li_102, li_103, li_104, li_105, li_106, li_107, li_108, li_109, li_110, li_111, li_112, li_120, li_122, li_124, li_126, li_130, li_168, li_175, li_200, li_255, li_260, li_360, li_1440, li_12345, li_1000000, li_1103515245, neg_nI, nltT, nltF, neqT, neqF, mlt_n, nlt_m, meq_n, neq_m, meq_mT, meq_mF, mlt_mT, mlt_mF, nI_cl, gd_in, gd_T, Option.bind_some, pI_ne, pI_eq, pI_2, pL_1, pL_ne, pL_eq, pL_22, upEq, upN, aN_at, aN_up, nU_e, nU_n, aAdd_n, aAdd_nm, aSub_p, aSub_n, aSub_mn, aSub_mm, aMul_n, aDiv_n, aRem_n, eq_self_iff_true, x6], by show h + 1 ≤ tl; omega, by show l + 1 ≤ h + 1; omega⟩
    · refine SD_name (by omega) ?_ ?_
      · simp (disch := omega) only [↓reduceIte, li_0, li_1, li_2, li_3, li_4, li_5, li_6, li_7, li_8, li_9, li_10, li_11, li_12, li_13, li_14, li_15, li_16, li_17, li_18, li_19, li_20, li_21, li_22, li_23, li_24, li_25, li_26, li_27, li_28, li_29, li_30, li_31, li_32, li_33, li_34, li_35, li_36, li_37, li_38, li_39, li_40, li_41, li_42, li_43, li_44, li_45, li_46, li_47, li_48, li_49, li_50, li_51, li_52, li_53, li_54, li_55, li_56, li_57, li_58, li_59, li_60, li_61, li_62, li_63, li_70, li_80, li_81, li_95, li_98, li_99, li_100, li_101, li_102, li_103, li_104, li_105, li_106, li_107, li_108, li_109, li_110, li_111, li_112, li_120, li_122, li_124, li_126, li_130, li_168, li_175, li_200, li_255, li_260, li_360, li_1440, li_12345, li_1000000, li_1103515245, neg_nI, nltT, nltF, neqT, neqF, mlt_n, nlt_m, meq_n, neq_m, meq_mT, meq_mF, mlt_mT, mlt_mF, nI_cl, gd_in, gd_T, Option.bind_some, pI_ne, pI_eq, pI_2, pL_1, pL_ne, pL_eq, pL_22, upEq, upN, aN_at, aN_up, nU_e, nU_n, aAdd_n, aAdd_nm, aSub_p, aSub_n, aSub_mn, aSub_mm, aMul_n, aDiv_n, aRem_n, eq_self_iff_true, aS3_90]
      · simp (disch := omega) only [↓reduceIte, li_0, li_1, li_2, li_3, li_4, li_5, li_6, li_7, li_8, li_9, li_10, li_11, li_12, li_13, li_14, li_15, li_16, li_17, li_18, li_19, li_20, li_21, li_22, li_23, li_24, li_25, li_26, li_27, li_28, li_29, li_30, li_31, li_32, li_33, li_34, li_35, li_36, li_37, li_38, li_39, li_40, li_41, li_42, li_43, li_44, li_45, li_46, li_47, li_48, li_49, li_50, li_51, li_52, li_53, li_54, li_55, li_56, li_57, li_58, li_59, li_60, li_61, li_62, li_63, li_70, li_80, li_81, li_95, li_98, li_99, li_100, li_101, li_102, li_103, li_104, li_105, li_106, li_107, li_108, li_109, li_110, li_111, li_112, li_120, li_122, li_124, li_126, li_130, li_168, li_175, li_200, li_255, li_260, li_360, li_1440, li_12345, li_1000000, li_1103515245, neg_nI, nltT, nltF, neqT, neqF, mlt_n, nlt_m, meq_n, neq_m, meq_mT, meq_mF, mlt_mT, mlt_mF, nI_cl, gd_in, gd_T, Option.bind_some, pI_ne, pI_eq, pI_2, pL_1, pL_ne, pL_eq, pL_22, upEq, upN, aN_at, aN_up, nU_e, nU_n, aAdd_n, aAdd_nm, aSub_p, aSub_n, aSub_mn, aSub_mm, aMul_n, aDiv_n, aRem_n, eq_self_iff_true, aS3_91]
  | none =>
    rw [hi] at nm
    simp only at nm ⊢
    have e33' : tkF tl tp h ≠ 33 := by omega
    have e45 : tkF tl tp h ≠ 45 := by omega
    obtain ⟨f1, f2, f3⟩ := MS_fault x
    obtain ⟨a1, a2⟩ := MX_add f2 (by omega) 1 (by omega) (nI 0)
    have fr := aS3_fr (pI s 74 25 (nI h)) l 1 (nI 0)
    refine ⟨_, l + 1, ?_, FrM_tr f3 fr (Nat.le_refl _), Or.inr ⟨Or.inl rfl, a2, by omega, by show l + 1 + h ≤ l + h + 1; omega⟩⟩
    have hin := m_in (lkV tl tp h) (nI 48) (nI 57) s
    rw [lk_dig hp h, cdf] at hin
    obtain ⟨f, hf⟩ : ∃ f, fuel0 = f + 1 := ⟨1999, fuel0_eq⟩
    have fg : f_X12_figure s = some (aS3 (pI s 74 25 (nI h)) l 1 (nI 0)) := by
      unfold f_X12_figure
      rw [hf, F_X12_figure_4]
      simp (disch := omega) only [↓bE (hk), ↓bE (hin), ↓bE (f1), ↓reduceIte, li_0, li_1, li_2, li_3, li_4, li_5, li_6, li_7, li_8, li_9, li_10, li_11, li_12, li_13, li_14, li_15, li_16, li_17, li_18, li_19, li_20, li_21, li_22, li_23, li_24, li_25, li_26, li_27, li_28, li_29, li_30, li_31, li_32, li_33, li_34, li_35, li_36, li_37, li_38, li_39, li_40, li_41, li_42, li_43, li_44, li_45, li_46, li_47, li_48, li_49, li_50, li_51, li_52, li_53, li_54, li_55, li_56, li_57, li_58, li_59, li_60, li_61, li_62, li_63, li_70, li_80, li_81, li_95, li_98, li_99, li_100, li_101, li_102, li_103, li_104, li_105, li_106, li_107, li_108, li_109, li_110, li_111, li_112, li_120, li_122, li_124, li_126, li_130, li_168, li_175, li_200, li_255, li_260, li_360, li_1440, li_12345, li_1000000, li_1103515245, neg_nI, nltT, nltF, neqT, neqF, mlt_n, nlt_m, meq_n, neq_m, meq_mT, meq_mF, mlt_mT, mlt_mF, nI_cl, gd_in, gd_T, Option.bind_some, pI_ne, pI_eq, pI_2, pL_1, pL_ne, pL_eq, pL_22, upEq, upN, aN_at, aN_up, nU_e, nU_n, aAdd_n, aAdd_nm, aSub_p, aSub_n, aSub_mn, aSub_mm, aMul_n, aDiv_n, aRem_n, eq_self_iff_true, tB_F, a1]
    unfold f_X12_operand
    simp (disch := omega) only [↓bE (hk), ↓bE (nm), ↓reduceIte, li_0, li_1, li_2, li_3, li_4, li_5, li_6, li_7, li_8, li_9, li_10, li_11, li_12, li_13, li_14, li_15, li_16, li_17, li_18, li_19, li_20, li_21, li_22, li_23, li_24, li_25, li_26, li_27, li_28, li_29, li_30, li_31, li_32, li_33, li_34, li_35, li_36, li_37, li_38, li_39, li_40, li_41, li_42, li_43, li_44, li_45, li_46, li_47, li_48, li_49, li_50, li_51, li_52, li_53, li_54, li_55, li_56, li_57, li_58, li_59, li_60, li_61, li_62, li_63, li_70, li_80, li_81, li_95, li_98, li_99, li_100, li_101, li_102, li_103, li_104, li_105, li_106, li_107, li_108, li_109, li_110, li_111, li_112, li_120, li_122, li_124, li_126, li_130, li_168, li_175, li_200, li_255, li_260, li_360, li_1440, li_12345, li_1000000, li_1103515245, neg_nI, nltT, nltF, neqT, neqF, mlt_n, nlt_m, meq_n, neq_m, meq_mT, meq_mF, mlt_mT, mlt_mF, nI_cl, gd_in, gd_T, Option.bind_some, pI_ne, pI_eq, pI_2, pL_1, pL_ne, pL_eq, pL_22, upEq, upN, aN_at, aN_up, nU_e, nU_n, aAdd_n, aAdd_nm, aSub_p, aSub_n, aSub_mn, aSub_mm, aMul_n, aDiv_n, aRem_n, eq_self_iff_true, k33, k45, k40, e33', e45, e40, fg]
theorem m_ops {tl : Nat} {tp : Nat → Nat} (ht : tl ≤ 120) (hp : ∀ k, tp k ≤ 255) : ∀ r o n, r + o = 6 → 6 * r ≤ n → MIr tl tp o (g_X12R (n + 1) 0) (ops (tkF tl tp) r) := by
  intro r
  induction r with
  | zero =>
    intro o n e hn
    rw [g12r_0]
    exact m_opS ht hp (by omega) (fun _ => by omega) (fun Y h => by cases h)
  | succ r ih =>
    intro o n e hn
    rw [g12r_0]
    refine m_opS ht hp (by omega) (fun h => by cases h) (fun Y h => ?_)
    cases h
    obtain ⟨m, rfl⟩ : ∃ m, n = m + 1 + 5 := ⟨n - 6, by omega⟩
    exact ⟨by omega, PX_ops _ r, m_ei ht hp (ih (o + 1) m (by omega) (by omega)) (PX_ops _ r), ih (o + 1) (m + 5) (by omega) (by omega)⟩
theorem m_exS {tl : Nat} {tp : Nat → Nat} (ht : tl ≤ 120) (hp : ∀ k, tp k ≤ 255) : MIr tl tp 0 (g_X12R fuelR 5) (exS (tkF tl tp)) := by
  have f : fuelR = 94 + 1 + 5 := fuelR_eq
  rw [f]
  exact m_ei ht hp (m_ops ht hp 6 0 94 (by omega) (by omega)) (PX_ops _ 6)
