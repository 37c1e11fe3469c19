/-! risk, walk -/
theorem m_fr7 {G : Wd} {A : Nat → Nat} {q : PH} {B T W p tg last : Nat} {jn : Nat → Nat → Bool} {rt : Nat → Nat → Nat} (ok : WOK G) (hA : AOK G A) (hG : GD G q B) (hp : p < G.P) (hl : last < 24) (hTl : T ≤ last) (htg : tg < G.Q) (hrt : rt = rtF (fun h k => nuF G A p k h (G.br p) (q.1 p)) (fun a b => decide (a = b) || jn a b) G.Q tg last) : ∀ m i n (s : SS), i + m = G.Q → m < n → MR s G A q T W jn → RtM s rt G.Q last last i →
    ∃ s', F_X12_findRisk_7 n (nI p) (nI tg) (nI last) (nI i) s = some s' ∧ MR s' G A q T W jn ∧ MF s s' ∧ (∀ h' k, T ≤ h' → h' ≤ last → k < G.Q → s'.1 101 (7 * h' + k) = nI (rt (last - h') k)) := by
  have i1 := ok.1
  have i2 := ok.2.1
  intro m
  induction m with
  | zero =>
    intro i n s e hn hS hR
    obtain ⟨n, rfl⟩ : ∃ n', n = n' + 1 := ⟨n - 1, by omega⟩
    have e : i = G.Q := by omega
    subst e
    have all : ∀ h' k, last ≤ h' → h' ≤ last → k < G.Q → s.1 101 (7 * h' + k) = nI (rt (last - h') k) := by
      intro h' k x y z
      have : h' = last := by omega
      subst this
      exact hR.2 k z
    rw [F_X12_findRisk_7]
    by_cases c : T = last
    · refine ⟨s, ?_, hS, MF_rfl s, fun h' k x y z => all h' k (by omega) y z⟩
      have ef : fuel0 = 1999 + 1 := fuel0_eq
      simp (disch := omega) only [↓reduceIte, li_0, li_1, li_2, li_3, li_4, li_5, li_6, li_7, li_8, li_9, li_10, li_11, li_12, li_13, li_14, li_15, li_16, li_17, li_18, li_19, li_20, li_21, li_22, li_23, li_24, li_25, li_26, li_27, li_28, li_29, li_30, li_31, li_32, li_33, li_34, li_35, li_36, li_37, li_38, li_39, li_40, li_41, li_42, li_43, li_44, li_45, li_46, li_47, li_48, li_49, li_50, li_51, li_52, li_53, li_54, li_55, li_56, li_57, li_58, li_59, li_60, li_61, li_62, li_63, li_70, li_80, li_81, li_95, li_98, li_99, li_100, li_101, li_102, li_103, li_104, li_105, li_106, li_107, li_108, li_109, li_110, li_111, li_112, li_120, li_122, li_124, li_126, li_130, li_168, li_175, li_200, li_255, li_260, li_360, li_1440, li_12345, li_1000000, li_1103515245, neg_nI, nltT, nltF, neqT, neqF, mlt_n, nlt_m, meq_n, neq_m, meq_mT, meq_mF, mlt_mT, mlt_mF, nI_cl, gd_in, gd_T, Option.bind_some, pI_ne, pI_eq, pI_2, pL_1, pL_ne, pL_eq, pL_22, upEq, upN, aN_at, aN_up, nU_e, nU_n, aAdd_n, aAdd_nm, aSub_p, aSub_n, aSub_mn, aSub_mm, aMul_n, aDiv_n, aRem_n, eq_self_iff_true, hS.1.1.2.1]
      rw [ef, F_X12_findRisk_65]
      rcases Nat.eq_zero_or_pos last with c0 | c0
      · subst c0
        have e0 : aSub (nI 0) (nI 1) = mI 1 := aSub_n (by omega)
        rw [e0]
        simp (disch := omega) only [↓reduceIte, li_0, li_1, li_2, li_3, li_4, li_5, li_6, li_7, li_8, li_9, li_10, li_11, li_12, li_13, li_14, li_15, li_16, li_17, li_18, li_19, li_20, li_21, li_22, li_23, li_24, li_25, li_26, li_27, li_28, li_29, li_30, li_31, li_32, li_33, li_34, li_35, li_36, li_37, li_38, li_39, li_40, li_41, li_42, li_43, li_44, li_45, li_46, li_47, li_48, li_49, li_50, li_51, li_52, li_53, li_54, li_55, li_56, li_57, li_58, li_59, li_60, li_61, li_62, li_63, li_70, li_80, li_81, li_95, li_98, li_99, li_100, li_101, li_102, li_103, li_104, li_105, li_106, li_107, li_108, li_109, li_110, li_111, li_112, li_120, li_122, li_124, li_126, li_130, li_168, li_175, li_200, li_255, li_260, li_360, li_1440, li_12345, li_1000000, li_1103515245, neg_nI, nltT, nltF, neqT, neqF, mlt_n, nlt_m, meq_n, neq_m, meq_mT, meq_mF, mlt_mT, mlt_mF, nI_cl, gd_in, gd_T, Option.bind_some, pI_ne, pI_eq, pI_2, pL_1, pL_ne, pL_eq, pL_22, upEq, upN, aN_at, aN_up, nU_e, nU_n, aAdd_n, aAdd_nm, aSub_p, aSub_n, aSub_mn, aSub_mm, aMul_n, aDiv_n, aRem_n, eq_self_iff_true, hS.1.2.2.2.2.1]
      · simp (disch := omega) only [↓reduceIte, li_0, li_1, li_2, li_3, li_4, li_5, li_6, li_7, li_8, li_9, li_10, li_11, li_12, li_13, li_14, li_15, li_16, li_17, li_18, li_19, li_20, li_21, li_22, li_23, li_24, li_25, li_26, li_27, li_28, li_29, li_30, li_31, li_32, li_33, li_34, li_35, li_36, li_37, li_38, li_39, li_40, li_41, li_42, li_43, li_44, li_45, li_46, li_47, li_48, li_49, li_50, li_51, li_52, li_53, li_54, li_55, li_56, li_57, li_58, li_59, li_60, li_61, li_62, li_63, li_70, li_80, li_81, li_95, li_98, li_99, li_100, li_101, li_102, li_103, li_104, li_105, li_106, li_107, li_108, li_109, li_110, li_111, li_112, li_120, li_122, li_124, li_126, li_130, li_168, li_175, li_200, li_255, li_260, li_360, li_1440, li_12345, li_1000000, li_1103515245, neg_nI, nltT, nltF, neqT, neqF, mlt_n, nlt_m, meq_n, neq_m, meq_mT, meq_mF, mlt_mT, mlt_mF, nI_cl, gd_in, gd_T, Option.bind_some, pI_ne, pI_eq, pI_2, pL_1, pL_ne, pL_eq, pL_22, upEq, upN, aN_at, aN_up, nU_e, nU_n, aAdd_n, aAdd_nm, aSub_p, aSub_n, aSub_mn, aSub_mm, aMul_n, aDiv_n, aRem_n, eq_self_iff_true, hS.1.2.2.2.2.1]
    · obtain ⟨s', b1, b2, b3, b4⟩ := m_fr65 (T := T) ok hA hG hp hl hrt (last - T) (last - 1) fuel0 s (by omega) (by omega) (by rw [fuel0_eq]; omega) hS ⟨fun h' k x y z => all h' k (by omega) y z, fun k x => by omega⟩
      refine ⟨s', ?_, b2, b3, b4⟩
      simp (disch := omega) only [↓reduceIte, li_0, li_1, li_2, li_3, li_4, li_5, li_6, li_7, li_8, li_9, li_10, li_11, li_12, li_13, li_14, li_15, li_16, li_17, li_18, li_19, li_20, li_21, li_22, li_23, li_24, li_25, li_26, li_27, li_28, li_29, li_30, li_31, li_32, li_33, li_34, li_35, li_36, li_37, li_38, li_39, li_40, li_41, li_42, li_43, li_44, li_45, li_46, li_47, li_48, li_49, li_50, li_51, li_52, li_53, li_54, li_55, li_56, li_57, li_58, li_59, li_60, li_61, li_62, li_63, li_70, li_80, li_81, li_95, li_98, li_99, li_100, li_101, li_102, li_103, li_104, li_105, li_106, li_107, li_108, li_109, li_110, li_111, li_112, li_120, li_122, li_124, li_126, li_130, li_168, li_175, li_200, li_255, li_260, li_360, li_1440, li_12345, li_1000000, li_1103515245, neg_nI, nltT, nltF, neqT, neqF, mlt_n, nlt_m, meq_n, neq_m, meq_mT, meq_mF, mlt_mT, mlt_mF, nI_cl, gd_in, gd_T, Option.bind_some, pI_ne, pI_eq, pI_2, pL_1, pL_ne, pL_eq, pL_22, upEq, upN, aN_at, aN_up, nU_e, nU_n, aAdd_n, aAdd_nm, aSub_p, aSub_n, aSub_mn, aSub_mm, aMul_n, aDiv_n, aRem_n, eq_self_iff_true, hS.1.1.2.1]
      exact b1
  | succ m ih =>
    intro i n s e hn hS hR
    obtain ⟨n, rfl⟩ : ∃ n', n = n' + 1 := ⟨n - 1, by omega⟩
    have g2 := hS.1.1.2.1
    have g3 := hS.1.1.2.2.1
    have rv : rt (last - last) i = if i = tg then nuF G A p i last (G.br p) (q.1 p) else 1000000 := by rw [Nat.sub_self, hrt, rtF]
    have nx : ∀ s1 : SS, MR s1 G A q T W jn → MF s s1 → s1.1 101 = s.1 101 → ∃ s', F_X12_findRisk_7 n (nI p) (nI tg) (nI last) (nI (i + 1)) (pI s1 101 (7 * last + i) (nI (rt (last - last) i))) = some s' ∧ MR s' G A q T W jn ∧ MF s s' ∧ (∀ h' k, T ≤ h' → h' ≤ last → k < G.Q → s'.1 101 (7 * h' + k) = nI (rt (last - h') k)) := by
      intro s1 S1 F1 e101
      obtain ⟨S2, F2⟩ := MR_101 (7 * last + i) (nI (rt (last - last) i)) S1
      obtain ⟨s', b1, b2, b3, b4⟩ := ih (i + 1) n _ (by omega) (by omega) S2 ⟨fun h' k x y z => by omega, fun k x => by
        by_cases c : k = i
        · subst c
          simp (disch := omega) only [↓reduceIte, li_0, li_1, li_2, li_3, li_4, li_5, li_6, li_7, li_8, li_9, li_10, li_11, li_12, li_13, li_14, li_15, li_16, li_17, li_18, li_19, li_20, li_21, li_22, li_23, li_24, li_25, li_26, li_27, li_28, li_29, li_30, li_31, li_32, li_33, li_34, li_35, li_36, li_37, li_38, li_39, li_40, li_41, li_42, li_43, li_44, li_45, li_46, li_47, li_48, li_49, li_50, li_51, li_52, li_53, li_54, li_55, li_56, li_57, li_58, li_59, li_60, li_61, li_62, li_63, li_70, li_80, li_81, li_95, li_98, li_99, li_100, li_101, li_102, li_103, li_104, li_105, li_106, li_107, li_108, li_109, li_110, li_111, li_112, li_120, li_122, li_124, li_126, li_130, li_168, li_175, li_200, li_255, li_260, li_360, li_1440, li_12345, li_1000000, li_1103515245, neg_nI, nltT, nltF, neqT, neqF, mlt_n, nlt_m, meq_n, neq_m, meq_mT, meq_mF, mlt_mT, mlt_mF, nI_cl, gd_in, gd_T, Option.bind_some, pI_ne, pI_eq, pI_2, pL_1, pL_ne, pL_eq, pL_22, upEq, upN, aN_at, aN_up, nU_e, nU_n, aAdd_n, aAdd_nm, aSub_p, aSub_n, aSub_mn, aSub_mm, aMul_n, aDiv_n, aRem_n, eq_self_iff_true]
        · simp (disch := omega) only [↓reduceIte, li_0, li_1, li_2, li_3, li_4, li_5, li_6, li_7, li_8, li_9, li_10, li_11, li_12, li_13, li_14, li_15, li_16, li_17, li_18, li_19, li_20, li_21, li_22, li_23, li_24, li_25, li_26, li_27, li_28, li_29, li_30, li_31, li_32, li_33, li_34, li_35, li_36, li_37, li_38, li_39, li_40, li_41, li_42, li_43, li_44, li_45, li_46, li_47, li_48, li_49, li_50, li_51, li_52, li_53, li_54, li_55, li_56, li_57, li_58, li_59, li_60, li_61, li_62, li_63, li_70, li_80, li_81, li_95, li_98, li_99, li_100, li_101, li_102, li_103, li_104, li_105, li_106, li_107, li_108, li_109, li_110, li_111, li_112, li_120, li_122, li_124, li_126, li_130, li_168, li_175, li_200, li_255, li_260, li_360, li_1440, li_12345, li_1000000, li_1103515245, neg_nI, nltT, nltF, neqT, neqF, mlt_n, nlt_m, meq_n, neq_m, meq_mT, meq_mF, mlt_mT, mlt_mF, nI_cl, gd_in, gd_T, Option.bind_some, pI_ne, pI_eq, pI_2, pL_1, pL_ne, pL_eq, pL_22, upEq, upN, aN_at, aN_up, nU_e, nU_n, aAdd_n, aAdd_nm, aSub_p, aSub_n, aSub_mn, aSub_mm, aMul_n, aDiv_n, aRem_n, eq_self_iff_true, e101]
          exact hR.2 k (by omega)⟩
      exact ⟨s', b1, b2, MF_tr F1 (MF_tr F2 b3), b4⟩
    by_cases c : i = tg
    · rw [if_pos c] at rv
      obtain ⟨s1, f1, f2, f3, f4⟩ := MR_fb hS ok hA hG hp (by omega : i < G.Q) hl
      obtain ⟨s', d1, d2, d3, d4⟩ := nx s1 f2 f3 f4
      rw [rv] at d1
      refine ⟨s', ?_, d2, d3, d4⟩
      rw [F_X12_findRisk_7]
      simp (disch := omega) only [↓reduceIte, li_0, li_1, li_2, li_3, li_4, li_5, li_6, li_7, li_8, li_9, li_10, li_11, li_12, li_13, li_14, li_15, li_16, li_17, li_18, li_19, li_20, li_21, li_22, li_23, li_24, li_25, li_26, li_27, li_28, li_29, li_30, li_31, li_32, li_33, li_34, li_35, li_36, li_37, li_38, li_39, li_40, li_41, li_42, li_43, li_44, li_45, li_46, li_47, li_48, li_49, li_50, li_51, li_52, li_53, li_54, li_55, li_56, li_57, li_58, li_59, li_60, li_61, li_62, li_63, li_70, li_80, li_81, li_95, li_98, li_99, li_100, li_101, li_102, li_103, li_104, li_105, li_106, li_107, li_108, li_109, li_110, li_111, li_112, li_120, li_122, li_124, li_126, li_130, li_168, li_175, li_200, li_255, li_260, li_360, li_1440, li_12345, li_1000000, li_1103515245, neg_nI, nltT, nltF, neqT, neqF, mlt_n, nlt_m, meq_n, neq_m, meq_mT, meq_mF, mlt_mT, mlt_mF, nI_cl, gd_in, gd_T, Option.bind_some, pI_ne, pI_eq, pI_2, pL_1, pL_ne, pL_eq, pL_22, upEq, upN, aN_at, aN_up, nU_e, nU_n, aAdd_n, aAdd_nm, aSub_p, aSub_n, aSub_mn, aSub_mm, aMul_n, aDiv_n, aRem_n, eq_self_iff_true, g2, g3, f1]
      exact d1
    · rw [if_neg c] at rv
      obtain ⟨s', d1, d2, d3, d4⟩ := nx s hS (MF_rfl s) rfl
      rw [rv] at d1
      refine ⟨s', ?_, d2, d3, d4⟩
      rw [F_X12_findRisk_7]
      simp (disch := omega) only [↓reduceIte, li_0, li_1, li_2, li_3, li_4, li_5, li_6, li_7, li_8, li_9, li_10, li_11, li_12, li_13, li_14, li_15, li_16, li_17, li_18, li_19, li_20, li_21, li_22, li_23, li_24, li_25, li_26, li_27, li_28, li_29, li_30, li_31, li_32, li_33, li_34, li_35, li_36, li_37, li_38, li_39, li_40, li_41, li_42, li_43, li_44, li_45, li_46, li_47, li_48, li_49, li_50, li_51, li_52, li_53, li_54, li_55, li_56, li_57, li_58, li_59, li_60, li_61, li_62, li_63, li_70, li_80, li_81, li_95, li_98, li_99, li_100, li_101, li_102, li_103, li_104, li_105, li_106, li_107, li_108, li_109, li_110, li_111, li_112, li_120, li_122, li_124, li_126, li_130, li_168, li_175, li_200, li_255, li_260, li_360, li_1440, li_12345, li_1000000, li_1103515245, neg_nI, nltT, nltF, neqT, neqF, mlt_n, nlt_m, meq_n, neq_m, meq_mT, meq_mF, mlt_mT, mlt_mF, nI_cl, gd_in, gd_T, Option.bind_some, pI_ne, pI_eq, pI_2, pL_1, pL_ne, pL_eq, pL_22, upEq, upN, aN_at, aN_up, nU_e, nU_n, aAdd_n, aAdd_nm, aSub_p, aSub_n, aSub_mn, aSub_mm, aMul_n, aDiv_n, aRem_n, eq_self_iff_true, g2]
      exact d1
theorem MT_risk {s : SS} {G : Wd} {A : Nat → Nat} {q : PH} {B T W p tg last : Nat} {jn : Nat → Nat → Bool} {rt : Nat → Nat → Nat} (h : MT s G A q T) (hJ : JM s W jn) (ok : WOK G) (hA : AOK G A) (hG : GD G q B) (hp : p < G.P) (hl : last < 24) (hTl : T ≤ last) (htg : tg < G.Q) (hrt : rt = rtF (fun h k => nuF G A p k h (G.br p) (q.1 p)) (fun a b => decide (a = b) || jn a b) G.Q tg last) :
    ∃ s', f_X12_findRisk (nI p) (nI tg) (nI last) s = some s' ∧ MR s' G A q T W jn ∧ MF s s' ∧ (∀ h' k, T ≤ h' → h' ≤ last → k < G.Q → s'.1 101 (7 * h' + k) = nI (rt (last - h') k)) := by
  have i2 := ok.2.1
  obtain ⟨s1, a1, a2, a3, a4, a5, a6⟩ := MT_think h ok hA hG
  obtain ⟨s', b1, b2, b3, b4⟩ := m_fr7 (W := W) ok hA hG hp hl hTl htg hrt G.Q 0 fuel0 s1 (by omega) (by rw [fuel0_eq]; omega) ⟨a2, JM_fr hJ (a3.2.1 8 (by omega) (by omega) (by omega) (by omega)) (a3.1 79 (by omega) (by omega)) (a3.1 80 (by omega) (by omega)), a4, a5⟩ ⟨fun h' k x y z => by omega, fun k x => by omega⟩
  refine ⟨s', ?_, b2, MF_tr a3 b3, b4⟩
  unfold f_X12_findRisk
  simp (disch := omega) only [↓reduceIte, li_0, li_1, li_2, li_3, li_4, li_5, li_6, li_7, li_8, li_9, li_10, li_11, li_12, li_13, li_14, li_15, li_16, li_17, li_18, li_19, li_20, li_21, li_22, li_23, li_24, li_25, li_26, li_27, li_28, li_29, li_30, li_31, li_32, li_33, li_34, li_35, li_36, li_37, li_38, li_39, li_40, li_41, li_42, li_43, li_44, li_45, li_46, li_47, li_48, li_49, li_50, li_51, li_52, li_53, li_54, li_55, li_56, li_57, li_58, li_59, li_60, li_61, li_62, li_63, li_70, li_80, li_81, li_95, li_98, li_99, li_100, li_101, li_102, li_103, li_104, li_105, li_106, li_107, li_108, li_109, li_110, li_111, li_112, li_120, li_122, li_124, li_126, li_130, li_168, li_175, li_200, li_255, li_260, li_360, li_1440, li_12345, li_1000000, li_1103515245, neg_nI, nltT, nltF, neqT, neqF, mlt_n, nlt_m, meq_n, neq_m, meq_mT, meq_mF, mlt_mT, mlt_mF, nI_cl, gd_in, gd_T, Option.bind_some, pI_ne, pI_eq, pI_2, pL_1, pL_ne, pL_eq, pL_22, upEq, upN, aN_at, aN_up, nU_e, nU_n, aAdd_n, aAdd_nm, aSub_p, aSub_n, aSub_mn, aSub_mm, aMul_n, aDiv_n, aRem_n, eq_self_iff_true, a1]
  exact b1
theorem m_walk1 {G : Wd} {A : Nat → Nat} {q : PH} {T W p hour k h lf r : Nat} {jn : Nat → Nat → Bool} {v : Nat → Nat} (k77 : Int32 → Int32 → Int32 → Int32 → SS → Option (Int32 × SS)) {s : SS} (hS : MR s G A q T W jn) (hQ : G.Q ≤ 7) (hk : k < 7) (hh : h + 1 < 25) (hr : r < G.Q) (hv : ∀ k, k < G.Q → s.1 101 (7 * (h + 1) + k) = nI (v k)) (hv2 : ∀ k, v k ≤ 1000000) (hlf : lf ≤ 1000000) (h1 : (decide (k = r) || jn k r) = true) (h2 : v r = lf) (h3 : ∀ j, j < r → ¬ ((decide (k = j) || jn k j) = true ∧ v j = lf)) : ∀ m i n, i + m = r → m < n → F_X12_walk_117 k77 n (nI p) (nI hour) (nI k) (nI h) (nI lf) (nI i) s = k77 (nI p) (nI hour) (nI r) (nI (h + 1)) s := by
  intro m
  induction m with
  | zero =>
    intro i n e hn
    obtain ⟨n, rfl⟩ : ∃ n', n = n' + 1 := ⟨n - 1, by omega⟩
    have e : i = r := by omega
    subst e
    have hg := m_mayGo hS.2.1 hk (by omega : i < 7)
    rw [h1] at hg
    rw [F_X12_walk_117]
    simp (disch := omega) only [↓reduceIte, li_0, li_1, li_2, li_3, li_4, li_5, li_6, li_7, li_8, li_9, li_10, li_11, li_12, li_13, li_14, li_15, li_16, li_17, li_18, li_19, li_20, li_21, li_22, li_23, li_24, li_25, li_26, li_27, li_28, li_29, li_30, li_31, li_32, li_33, li_34, li_35, li_36, li_37, li_38, li_39, li_40, li_41, li_42, li_43, li_44, li_45, li_46, li_47, li_48, li_49, li_50, li_51, li_52, li_53, li_54, li_55, li_56, li_57, li_58, li_59, li_60, li_61, li_62, li_63, li_70, li_80, li_81, li_95, li_98, li_99, li_100, li_101, li_102, li_103, li_104, li_105, li_106, li_107, li_108, li_109, li_110, li_111, li_112, li_120, li_122, li_124, li_126, li_130, li_168, li_175, li_200, li_255, li_260, li_360, li_1440, li_12345, li_1000000, li_1103515245, neg_nI, nltT, nltF, neqT, neqF, mlt_n, nlt_m, meq_n, neq_m, meq_mT, meq_mF, mlt_mT, mlt_mF, nI_cl, gd_in, gd_T, Option.bind_some, pI_ne, pI_eq, pI_2, pL_1, pL_ne, pL_eq, pL_22, upEq, upN, aN_at, aN_up, nU_e, nU_n, aAdd_n, aAdd_nm, aSub_p, aSub_n, aSub_mn, aSub_mm, aMul_n, aDiv_n, aRem_n, eq_self_iff_true, hg, tB_T, hv i hr]
  | succ m ih =>
    intro i n e hn
    obtain ⟨n, rfl⟩ : ∃ n', n = n' + 1 := ⟨n - 1, by omega⟩
    have hg := m_mayGo hS.2.1 hk (by omega : i < 7)
    have v2 := hv2 i
    rw [F_X12_walk_117]
    cases hb : (decide (k = i) || jn k i) with
    | true =>
      rw [hb] at hg
      have c : v i ≠ lf := fun x => h3 i (by omega) ⟨hb, x⟩
      simp (disch := omega) only [↓reduceIte, li_0, li_1, li_2, li_3, li_4, li_5, li_6, li_7, li_8, li_9, li_10, li_11, li_12, li_13, li_14, li_15, li_16, li_17, li_18, li_19, li_20, li_21, li_22, li_23, li_24, li_25, li_26, li_27, li_28, li_29, li_30, li_31, li_32, li_33, li_34, li_35, li_36, li_37, li_38, li_39, li_40, li_41, li_42, li_43, li_44, li_45, li_46, li_47, li_48, li_49, li_50, li_51, li_52, li_53, li_54, li_55, li_56, li_57, li_58, li_59, li_60, li_61, li_62, li_63, li_70, li_80, li_81, li_95, li_98, li_99, li_100, li_101, li_102, li_103, li_104, li_105, li_106, li_107, li_108, li_109, li_110, li_111, li_112, li_120, li_122, li_124, li_126, li_130, li_168, li_175, li_200, li_255, li_260, li_360, li_1440, li_12345, li_1000000, li_1103515245, neg_nI, nltT, nltF, neqT, neqF, mlt_n, nlt_m, meq_n, neq_m, meq_mT, meq_mF, mlt_mT, mlt_mF, nI_cl, gd_in, gd_T, Option.bind_some, pI_ne, pI_eq, pI_2, pL_1, pL_ne, pL_eq, pL_22, upEq, upN, aN_at, aN_up, nU_e, nU_n, aAdd_n, aAdd_nm, aSub_p, aSub_n, aSub_mn, aSub_mm, aMul_n, aDiv_n, aRem_n, eq_self_iff_true, hg, tB_T, hv i (by omega)]
      exact ih (i + 1) n (by omega) (by omega)
    | false =>
      rw [hb] at hg
      simp (disch := omega) only [↓reduceIte, li_0, li_1, li_2, li_3, li_4, li_5, li_6, li_7, li_8, li_9, li_10, li_11, li_12, li_13, li_14, li_15, li_16, li_17, li_18, li_19, li_20, li_21, li_22, li_23, li_24, li_25, li_26, li_27, li_28, li_29, li_30, li_31, li_32, li_33, li_34, li_35, li_36, li_37, li_38, li_39, li_40, li_41, li_42, li_43, li_44, li_45, li_46, li_47, li_48, li_49, li_50, li_51, li_52, li_53, li_54, li_55, li_56, li_57, li_58, li_59, li_60, li_61, li_62, li_63, li_70, li_80, li_81, li_95, li_98, li_99, li_100, li_101, li_102, li_103, li_104, li_105, li_106, li_107, li_108, li_109, li_110, li_111, li_112, li_120, li_122, li_124, li_126, li_130, li_168, li_175, li_200, li_255, li_260, li_360, li_1440, li_12345, li_1000000, li_1103515245, neg_nI, nltT, nltF, neqT, neqF, mlt_n, nlt_m, meq_n, neq_m, meq_mT, meq_mF, mlt_mT, mlt_mF, nI_cl, gd_in, gd_T, Option.bind_some, pI_ne, pI_eq, pI_2, pL_1, pL_ne, pL_eq, pL_22, upEq, upN, aN_at, aN_up, nU_e, nU_n, aAdd_n, aAdd_nm, aSub_p, aSub_n, aSub_mn, aSub_mm, aMul_n, aDiv_n, aRem_n, eq_self_iff_true, hg, tB_F]
      exact ih (i + 1) n (by omega) (by omega)
theorem m_walk2 {G : Wd} {A : Nat → Nat} {q : PH} {B T W p tg last hour : Nat} {jn : Nat → Nat → Bool} {rt : Nat → Nat → Nat} (ok : WOK G) (hA : AOK G A) (hG : GD G q B) (hp : p < G.P) (hl : last < 24) (hho : hour ≤ last) (hrt : rt = rtF (fun h k => nuF G A p k h (G.br p) (q.1 p)) (fun a b => decide (a = b) || jn a b) G.Q tg last) : ∀ m h n k (s : SS), h + m = hour → T ≤ h → m < n → k < G.Q → rt (last - h) k ≠ 1000000 → MR s G A q T W jn → (∀ h' k, T ≤ h' → h' ≤ last → k < G.Q → s.1 101 (7 * h' + k) = nI (rt (last - h') k)) →
    ∃ s', F_X12_walk_77 n (nI p) (nI hour) (nI k) (nI h) s = some (nI (fwF (fun a b => decide (a = b) || jn a b) rt G.Q last m h k), s') ∧ MT s' G A q T ∧ MF s s' := by
  have i1 := ok.1
  have i2 := ok.2.1
  have hN : ∀ h k, (fun h k => nuF G A p k h (G.br p) (q.1 p)) h k ≤ 12 := fun h k => nuF_le _ _ _ _ _ _ _
  have rle : ∀ j k, rt j k = 1000000 ∨ rt j k ≤ 12 * (j + 1) := by rw [hrt]; exact rt_le hN
  intro m
  induction m with
  | zero =>
    intro h n k s e ht hn hk hne hS hR
    obtain ⟨n, rfl⟩ : ∃ n', n = n' + 1 := ⟨n - 1, by omega⟩
    rw [F_X12_walk_77]
    refine ⟨s, ?_, hS.1, MF_rfl s⟩
    simp (disch := omega) only [↓reduceIte, li_0, li_1, li_2, li_3, li_4, li_5, li_6, li_7, li_8, li_9, li_10, li_11, li_12, li_13, li_14, li_15, li_16, li_17, li_18, li_19, li_20, li_21, li_22, li_23, li_24, li_25, li_26, li_27, li_28, li_29, li_30, li_31, li_32, li_33, li_34, li_35, li_36, li_37, li_38, li_39, li_40, li_41, li_42, li_43, li_44, li_45, li_46, li_47, li_48, li_49, li_50, li_51, li_52, li_53, li_54, li_55, li_56, li_57, li_58, li_59, li_60, li_61, li_62, li_63, li_70, li_80, li_81, li_95, li_98, li_99, li_100, li_101, li_102, li_103, li_104, li_105, li_106, li_107, li_108, li_109, li_110, li_111, li_112, li_120, li_122, li_124, li_126, li_130, li_168, li_175, li_200, li_255, li_260, li_360, li_1440, li_12345, li_1000000, li_1103515245, neg_nI, nltT, nltF, neqT, neqF, mlt_n, nlt_m, meq_n, neq_m, meq_mT, meq_mF, mlt_mT, mlt_mF, nI_cl, gd_in, gd_T, Option.bind_some, pI_ne, pI_eq, pI_2, pL_1, pL_ne, pL_eq, pL_22, upEq, upN, aN_at, aN_up, nU_e, nU_n, aAdd_n, aAdd_nm, aSub_p, aSub_n, aSub_mn, aSub_mm, aMul_n, aDiv_n, aRem_n, eq_self_iff_true]
    rfl
  | succ m ih =>
    intro h n k s e ht hn hk hne hS hR
    obtain ⟨n, rfl⟩ : ∃ n', n = n' + 1 := ⟨n - 1, by omega⟩
    have g3 := hS.1.1.2.2.1
    have ej : last - h = last - (h + 1) + 1 := by omega
    have hv2 : ∀ k, rt (last - (h + 1)) k ≤ 1000000 := fun k => by rcases rle (last - (h + 1)) k with x | x <;> omega
    have rv : rt (last - h) k = if mnF (fun x => decide (k = x) || jn k x) (rt (last - (h + 1))) G.Q 0 1000000 = 1000000 then 1000000 else mnF (fun x => decide (k = x) || jn k x) (rt (last - (h + 1))) G.Q 0 1000000 + nuF G A p k h (G.br p) (q.1 p) := by
      have : last - (last - (h + 1) + 1) = h := by omega
      rw [ej, hrt, rtF, this]
    have c2 : mnF (fun x => decide (k = x) || jn k x) (rt (last - (h + 1))) G.Q 0 1000000 ≠ 1000000 := by
      intro x
      rw [if_pos x] at rv
      exact hne rv
    rw [if_neg c2] at rv
    have n12 := nuF_le G A p k h (G.br p) (q.1 p)
    obtain ⟨s1, f1, f2, f3, f4⟩ := MR_fb hS ok hA hG hp hk (by omega : h < 24)
    have hR1 : ∀ h' k, T ≤ h' → h' ≤ last → k < G.Q → s1.1 101 (7 * h' + k) = nI (rt (last - h') k) := by rw [f4]; exact hR
    rcases bs_first (fun x => decide (k = x) || jn k x) (rt (last - (h + 1))) G.Q 0 k 1000000 with ⟨x1, x2⟩ | ⟨x1, x2, x3, x4, x5, x6⟩
    · exact absurd x1 c2
    · obtain ⟨s', b1, b2, b3⟩ := ih (h + 1) n (bsF (fun x => decide (k = x) || jn k x) (rt (last - (h + 1))) G.Q 0 k 1000000) s1 (by omega) (by omega) (by omega) (by omega) (by rw [x5]; exact c2) f2 hR1
      have w := m_walk1 (p := p) (hour := hour) (v := rt (last - (h + 1))) (F_X12_walk_77 n) f2 i2 (by omega : k < 7) (by omega : h + 1 < 25) (by omega : bsF (fun x => decide (k = x) || jn k x) (rt (last - (h + 1))) G.Q 0 k 1000000 < G.Q) (fun k' x => hR1 (h + 1) k' (by omega) (by omega) x) hv2 (by omega) x4 x5 (fun j y => x6 j (by omega) y) (bsF (fun x => decide (k = x) || jn k x) (rt (last - (h + 1))) G.Q 0 k 1000000) 0 fuel0 (by omega) (by rw [fuel0_eq]; omega)
      have hk7 := hR h k (by omega) (by omega) hk
      rw [rv] at hk7
      have q1 : rt (last - h) k ≤ 1000000 := by rcases rle (last - h) k with x | x <;> omega
      refine ⟨s', ?_, b2, MF_tr f3 b3⟩
      rw [F_X12_walk_77, fwF]
      generalize mnF (fun x => decide (k = x) || jn k x) (rt (last - (h + 1))) G.Q 0 1000000 = mn at *
      simp (disch := omega) only [↓reduceIte, li_0, li_1, li_2, li_3, li_4, li_5, li_6, li_7, li_8, li_9, li_10, li_11, li_12, li_13, li_14, li_15, li_16, li_17, li_18, li_19, li_20, li_21, li_22, li_23, li_24, li_25, li_26, li_27, li_28, li_29, li_30, li_31, li_32, li_33, li_34, li_35, li_36, li_37, li_38, li_39, li_40, li_41, li_42, li_43, li_44, li_45, li_46, li_47, li_48, li_49, li_50, li_51, li_52, li_53, li_54, li_55, li_56, li_57, li_58, li_59, li_60, li_61, li_62, li_63, li_70, li_80, li_81, li_95, li_98, li_99, li_100, li_101, li_102, li_103, li_104, li_105, li_106, li_107, li_108, li_109, li_110, li_111, li_112, li_120, li_122, li_124, li_126, li_130, li_168, li_175, li_200, li_255, li_260, li_360, li_1440, li_12345, li_1000000, li_1103515245, neg_nI, nltT, nltF, neqT, neqF, mlt_n, nlt_m, meq_n, neq_m, meq_mT, meq_mF, mlt_mT, mlt_mF, nI_cl, gd_in, gd_T, Option.bind_some, pI_ne, pI_eq, pI_2, pL_1, pL_ne, pL_eq, pL_22, upEq, upN, aN_at, aN_up, nU_e, nU_n, aAdd_n, aAdd_nm, aSub_p, aSub_n, aSub_mn, aSub_mm, aMul_n, aDiv_n, aRem_n, eq_self_iff_true, g3, f1, hk7, Nat.add_sub_cancel]
      rw [w]
      exact b1
