def MoS (s : SS) (G : Wd) (A : Nat → Nat) (q : PH) (one un : Nat) : Prop := WM s G ∧ s.1 97 = aN q.1 ∧ s.1 98 = aN A ∧ s.1 99 = aN q.2 ∧ s.1 74 44 = nI un ∧ s.1 74 45 = nI one
def MoQ (dp : Nat) (s s' : SS) (r : Nat × Nat) : Prop := s'.2.1 74 46 = s.2.1 74 46 + lN r.1 ∧ s'.2.1 74 47 = s.2.1 74 47 + lN r.2 ∧ (∀ c, c ≠ 74 → s'.2.1 c = s.2.1 c) ∧ s'.2.2 = s.2.2 ∧ (∀ c, c ≠ 95 → c ≠ 96 → c ≠ 97 → c ≠ 99 → c ≠ 100 → c ≠ 102 → c ≠ 103 → s'.1 c = s.1 c) ∧ (∀ k, k < 6 * dp → s'.1 102 k = s.1 102 k) ∧ (∀ k, k < 7 * dp → s'.1 103 k = s.1 103 k)
theorem MoQ_tr {dp dp1 dp2 : Nat} {s s1 s2 : SS} {r1 r2 : Nat × Nat} (h1 : MoQ dp1 s s1 r1) (h2 : MoQ dp2 s1 s2 r2) (d1 : dp ≤ dp1) (d2 : dp ≤ dp2) : MoQ dp s s2 (r1.1 + r2.1, r1.2 + r2.2) := by
  obtain ⟨x1, x2, x3, x4, x5, x6, x7⟩ := h1
  obtain ⟨y1, y2, y3, y4, y5, y6, y7⟩ := h2
  refine ⟨?_, ?_, fun c e => by rw [y3 c e, x3 c e], by rw [y4, x4], fun c e1 e2 e3 e4 e5 e6 e7 => by rw [y5 c e1 e2 e3 e4 e5 e6 e7, x5 c e1 e2 e3 e4 e5 e6 e7], fun k e => by rw [y6 k (by omega), x6 k (by omega)], fun k e => by rw [y7 k (by omega), x7 k (by omega)]⟩
  · rw [y1, x1, l_assoc]
  · rw [y2, x2, l_assoc]
theorem MoQ_nil {dp : Nat} {s s' : SS} (h1 : s'.2 = s.2) (h2 : ∀ c, c ≠ 95 → c ≠ 96 → c ≠ 97 → c ≠ 99 → c ≠ 100 → c ≠ 102 → c ≠ 103 → s'.1 c = s.1 c) (h3 : ∀ k, k < 6 * dp → s'.1 102 k = s.1 102 k) (h4 : ∀ k, k < 7 * dp → s'.1 103 k = s.1 103 k) : MoQ dp s s' (0, 0) := by
  refine ⟨?_, ?_, fun c _ => by rw [h1], by rw [h1], h2, h3, h4⟩ <;> rw [h1, l_zero]
theorem WM_of {s s' : SS} {G : Wd} (h : WM s G) (f : ∀ c, c ≠ 95 → c ≠ 96 → c ≠ 97 → c ≠ 99 → c ≠ 100 → c ≠ 102 → c ≠ 103 → s'.1 c = s.1 c) : WM s' G :=
  WM_fr h (fun k _ => by rw [f 74 (by omega) (by omega) (by omega) (by omega) (by omega) (by omega) (by omega)]) (fun c x y => f c (by omega) (by omega) (by omega) (by omega) (by omega) (by omega) (by omega)) (f 82 (by omega) (by omega) (by omega) (by omega) (by omega) (by omega) (by omega)) (fun c x y => f c (by omega) (by omega) (by omega) (by omega) (by omega) (by omega) (by omega))
theorem MoS_fr {s s' : SS} {G : Wd} {A : Nat → Nat} {q q' : PH} {one un : Nat} (h : MoS s G A q one un) (f : ∀ c, c ≠ 95 → c ≠ 96 → c ≠ 97 → c ≠ 99 → c ≠ 100 → c ≠ 102 → c ≠ 103 → s'.1 c = s.1 c) (a : s'.1 97 = aN q'.1) (b : s'.1 99 = aN q'.2) : MoS s' G A q' one un := by
  obtain ⟨h1, h2, h3, h4, h5, h6⟩ := h
  have e := f 74 (by omega) (by omega) (by omega) (by omega) (by omega) (by omega) (by omega)
  exact ⟨WM_of h1 f, a, by rw [f 98 (by omega) (by omega) (by omega) (by omega) (by omega) (by omega) (by omega)]; exact h3, b, by rw [e]; exact h5, by rw [e]; exact h6⟩
theorem m_gtL {s : SS} {G : Wd} {A : Nat → Nat} {q : PH} {one un w B dp : Nat} (ok : WOK G) (hG : GD G q B) (ho : one < G.P) (h : MoS s G A q one un) : ∃ s', gtL (lN w) s = some s' ∧ s'.1 = s.1 ∧ MoQ dp s s' (if cmF q.1 (G.P - 1) 1 0 = one then w else 0, w * q.1 one) := by
  have i1 := ok.1
  have i2 := hG.1 one
  obtain ⟨h1, h2, h3, h4, h5, h6⟩ := h
  obtain ⟨cc1, cc2, cc3⟩ := cmd_spec (H := q.1) (P := G.P) (by omega)
  have hc := m_firstOf h1.1 h2 i1 (by omega) hG.1
  unfold gtL
  by_cases c : cmF q.1 (G.P - 1) 1 0 = one
  · have c' : cmd q.1 G.P = one := c
    rw [if_pos c]
    simp (disch := omega) only [↓reduceIte, li_0, li_1, li_2, li_3, li_4, li_5, li_6, li_7, li_8, li_9, li_10, li_11, li_12, li_13, li_14, li_15, li_16, li_17, li_18, li_19, li_20, li_21, li_22, li_23, li_24, li_25, li_26, li_27, li_28, li_29, li_30, li_31, li_32, li_33, li_34, li_35, li_36, li_37, li_38, li_39, li_40, li_41, li_42, li_43, li_44, li_45, li_46, li_47, li_48, li_49, li_50, li_51, li_52, li_53, li_54, li_55, li_56, li_57, li_58, li_59, li_60, li_61, li_62, li_63, li_70, li_80, li_81, li_95, li_98, li_99, li_100, li_101, li_102, li_103, li_104, li_105, li_106, li_107, li_108, li_109, li_110, li_111, li_112, li_120, li_122, li_124, li_126, li_130, li_168, li_175, li_200, li_255, li_260, li_360, li_1440, li_12345, li_1000000, li_1103515245, neg_nI, nltT, nltF, neqT, neqF, mlt_n, nlt_m, meq_n, neq_m, meq_mT, meq_mF, mlt_mT, mlt_mF, nI_cl, gd_in, gd_T, Option.bind_some, pI_ne, pI_eq, pI_2, pL_1, pL_ne, pL_eq, pL_22, upEq, upN, aN_at, aN_up, nU_e, nU_n, aAdd_n, aAdd_nm, aSub_p, aSub_n, aSub_mn, aSub_mm, aMul_n, aDiv_n, aRem_n, eq_self_iff_true, hc, h6, h2, i2l, l_mul, lAdd_eq]
    refine ⟨_, rfl, rfl, ?_, ?_, fun c x => ?_, rfl, fun _ _ _ _ _ _ _ _ => rfl, fun _ _ => rfl, fun _ _ => rfl⟩
    · simp (disch := omega) only [↓reduceIte, li_0, li_1, li_2, li_3, li_4, li_5, li_6, li_7, li_8, li_9, li_10, li_11, li_12, li_13, li_14, li_15, li_16, li_17, li_18, li_19, li_20, li_21, li_22, li_23, li_24, li_25, li_26, li_27, li_28, li_29, li_30, li_31, li_32, li_33, li_34, li_35, li_36, li_37, li_38, li_39, li_40, li_41, li_42, li_43, li_44, li_45, li_46, li_47, li_48, li_49, li_50, li_51, li_52, li_53, li_54, li_55, li_56, li_57, li_58, li_59, li_60, li_61, li_62, li_63, li_70, li_80, li_81, li_95, li_98, li_99, li_100, li_101, li_102, li_103, li_104, li_105, li_106, li_107, li_108, li_109, li_110, li_111, li_112, li_120, li_122, li_124, li_126, li_130, li_168, li_175, li_200, li_255, li_260, li_360, li_1440, li_12345, li_1000000, li_1103515245, neg_nI, nltT, nltF, neqT, neqF, mlt_n, nlt_m, meq_n, neq_m, meq_mT, meq_mF, mlt_mT, mlt_mF, nI_cl, gd_in, gd_T, Option.bind_some, pI_ne, pI_eq, pI_2, pL_1, pL_ne, pL_eq, pL_22, upEq, upN, aN_at, aN_up, nU_e, nU_n, aAdd_n, aAdd_nm, aSub_p, aSub_n, aSub_mn, aSub_mm, aMul_n, aDiv_n, aRem_n, eq_self_iff_true]
    · simp (disch := omega) only [↓reduceIte, li_0, li_1, li_2, li_3, li_4, li_5, li_6, li_7, li_8, li_9, li_10, li_11, li_12, li_13, li_14, li_15, li_16, li_17, li_18, li_19, li_20, li_21, li_22, li_23, li_24, li_25, li_26, li_27, li_28, li_29, li_30, li_31, li_32, li_33, li_34, li_35, li_36, li_37, li_38, li_39, li_40, li_41, li_42, li_43, li_44, li_45, li_46, li_47, li_48, li_49, li_50, li_51, li_52, li_53, li_54, li_55, li_56, li_57, li_58, li_59, li_60, li_61, li_62, li_63, li_70, li_80, li_81, li_95, li_98, li_99, li_100, li_101, li_102, li_103, li_104, li_105, li_106, li_107, li_108, li_109, li_110, li_111, li_112, li_120, li_122, li_124, li_126, li_130, li_168, li_175, li_200, li_255, li_260, li_360, li_1440, li_12345, li_1000000, li_1103515245, neg_nI, nltT, nltF, neqT, neqF, mlt_n, nlt_m, meq_n, neq_m, meq_mT, meq_mF, mlt_mT, mlt_mF, nI_cl, gd_in, gd_T, Option.bind_some, pI_ne, pI_eq, pI_2, pL_1, pL_ne, pL_eq, pL_22, upEq, upN, aN_at, aN_up, nU_e, nU_n, aAdd_n, aAdd_nm, aSub_p, aSub_n, aSub_mn, aSub_mm, aMul_n, aDiv_n, aRem_n, eq_self_iff_true]
    · simp (disch := omega) only [↓reduceIte, li_0, li_1, li_2, li_3, li_4, li_5, li_6, li_7, li_8, li_9, li_10, li_11, li_12, li_13, li_14, li_15, li_16, li_17, li_18, li_19, li_20, li_21, li_22, li_23, li_24, li_25, li_26, li_27, li_28, li_29, li_30, li_31, li_32, li_33, li_34, li_35, li_36, li_37, li_38, li_39, li_40, li_41, li_42, li_43, li_44, li_45, li_46, li_47, li_48, li_49, li_50, li_51, li_52, li_53, li_54, li_55, li_56, li_57, li_58, li_59, li_60, li_61, li_62, li_63, li_70, li_80, li_81, li_95, li_98, li_99, li_100, li_101, li_102, li_103, li_104, li_105, li_106, li_107, li_108, li_109, li_110, li_111, li_112, li_120, li_122, li_124, li_126, li_130, li_168, li_175, li_200, li_255, li_260, li_360, li_1440, li_12345, li_1000000, li_1103515245, neg_nI, nltT, nltF, neqT, neqF, mlt_n, nlt_m, meq_n, neq_m, meq_mT, meq_mF, mlt_mT, mlt_mF, nI_cl, gd_in, gd_T, Option.bind_some, pI_ne, pI_eq, pI_2, pL_1, pL_ne, pL_eq, pL_22, upEq, upN, aN_at, aN_up, nU_e, nU_n, aAdd_n, aAdd_nm, aSub_p, aSub_n, aSub_mn, aSub_mm, aMul_n, aDiv_n, aRem_n, eq_self_iff_true]
  · have c' : cmd q.1 G.P ≠ one := c
    rw [if_neg c]
    simp (disch := omega) only [↓reduceIte, li_0, li_1, li_2, li_3, li_4, li_5, li_6, li_7, li_8, li_9, li_10, li_11, li_12, li_13, li_14, li_15, li_16, li_17, li_18, li_19, li_20, li_21, li_22, li_23, li_24, li_25, li_26, li_27, li_28, li_29, li_30, li_31, li_32, li_33, li_34, li_35, li_36, li_37, li_38, li_39, li_40, li_41, li_42, li_43, li_44, li_45, li_46, li_47, li_48, li_49, li_50, li_51, li_52, li_53, li_54, li_55, li_56, li_57, li_58, li_59, li_60, li_61, li_62, li_63, li_70, li_80, li_81, li_95, li_98, li_99, li_100, li_101, li_102, li_103, li_104, li_105, li_106, li_107, li_108, li_109, li_110, li_111, li_112, li_120, li_122, li_124, li_126, li_130, li_168, li_175, li_200, li_255, li_260, li_360, li_1440, li_12345, li_1000000, li_1103515245, neg_nI, nltT, nltF, neqT, neqF, mlt_n, nlt_m, meq_n, neq_m, meq_mT, meq_mF, mlt_mT, mlt_mF, nI_cl, gd_in, gd_T, Option.bind_some, pI_ne, pI_eq, pI_2, pL_1, pL_ne, pL_eq, pL_22, upEq, upN, aN_at, aN_up, nU_e, nU_n, aAdd_n, aAdd_nm, aSub_p, aSub_n, aSub_mn, aSub_mm, aMul_n, aDiv_n, aRem_n, eq_self_iff_true, hc, h6, h2, i2l, l_mul, lAdd_eq]
    refine ⟨_, rfl, rfl, ?_, ?_, fun c x => ?_, rfl, fun _ _ _ _ _ _ _ _ => rfl, fun _ _ => rfl, fun _ _ => rfl⟩
    · simp (disch := omega) only [↓reduceIte, li_0, li_1, li_2, li_3, li_4, li_5, li_6, li_7, li_8, li_9, li_10, li_11, li_12, li_13, li_14, li_15, li_16, li_17, li_18, li_19, li_20, li_21, li_22, li_23, li_24, li_25, li_26, li_27, li_28, li_29, li_30, li_31, li_32, li_33, li_34, li_35, li_36, li_37, li_38, li_39, li_40, li_41, li_42, li_43, li_44, li_45, li_46, li_47, li_48, li_49, li_50, li_51, li_52, li_53, li_54, li_55, li_56, li_57, li_58, li_59, li_60, li_61, li_62, li_63, li_70, li_80, li_81, li_95, li_98, li_99, li_100, li_101, li_102, li_103, li_104, li_105, li_106, li_107, li_108, li_109, li_110, li_111, li_112, li_120, li_122, li_124, li_126, li_130, li_168, li_175, li_200, li_255, li_260, li_360, li_1440, li_12345, li_1000000, li_1103515245, neg_nI, nltT, nltF, neqT, neqF, mlt_n, nlt_m, meq_n, neq_m, meq_mT, meq_mF, mlt_mT, mlt_mF, nI_cl, gd_in, gd_T, Option.bind_some, pI_ne, pI_eq, pI_2, pL_1, pL_ne, pL_eq, pL_22, upEq, upN, aN_at, aN_up, nU_e, nU_n, aAdd_n, aAdd_nm, aSub_p, aSub_n, aSub_mn, aSub_mm, aMul_n, aDiv_n, aRem_n, eq_self_iff_true, l_zero]
    · simp (disch := omega) only [↓reduceIte, li_0, li_1, li_2, li_3, li_4, li_5, li_6, li_7, li_8, li_9, li_10, li_11, li_12, li_13, li_14, li_15, li_16, li_17, li_18, li_19, li_20, li_21, li_22, li_23, li_24, li_25, li_26, li_27, li_28, li_29, li_30, li_31, li_32, li_33, li_34, li_35, li_36, li_37, li_38, li_39, li_40, li_41, li_42, li_43, li_44, li_45, li_46, li_47, li_48, li_49, li_50, li_51, li_52, li_53, li_54, li_55, li_56, li_57, li_58, li_59, li_60, li_61, li_62, li_63, li_70, li_80, li_81, li_95, li_98, li_99, li_100, li_101, li_102, li_103, li_104, li_105, li_106, li_107, li_108, li_109, li_110, li_111, li_112, li_120, li_122, li_124, li_126, li_130, li_168, li_175, li_200, li_255, li_260, li_360, li_1440, li_12345, li_1000000, li_1103515245, neg_nI, nltT, nltF, neqT, neqF, mlt_n, nlt_m, meq_n, neq_m, meq_mT, meq_mF, mlt_mT, mlt_mF, nI_cl, gd_in, gd_T, Option.bind_some, pI_ne, pI_eq, pI_2, pL_1, pL_ne, pL_eq, pL_22, upEq, upN, aN_at, aN_up, nU_e, nU_n, aAdd_n, aAdd_nm, aSub_p, aSub_n, aSub_mn, aSub_mm, aMul_n, aDiv_n, aRem_n, eq_self_iff_true]
    · simp (disch := omega) only [↓reduceIte, li_0, li_1, li_2, li_3, li_4, li_5, li_6, li_7, li_8, li_9, li_10, li_11, li_12, li_13, li_14, li_15, li_16, li_17, li_18, li_19, li_20, li_21, li_22, li_23, li_24, li_25, li_26, li_27, li_28, li_29, li_30, li_31, li_32, li_33, li_34, li_35, li_36, li_37, li_38, li_39, li_40, li_41, li_42, li_43, li_44, li_45, li_46, li_47, li_48, li_49, li_50, li_51, li_52, li_53, li_54, li_55, li_56, li_57, li_58, li_59, li_60, li_61, li_62, li_63, li_70, li_80, li_81, li_95, li_98, li_99, li_100, li_101, li_102, li_103, li_104, li_105, li_106, li_107, li_108, li_109, li_110, li_111, li_112, li_120, li_122, li_124, li_126, li_130, li_168, li_175, li_200, li_255, li_260, li_360, li_1440, li_12345, li_1000000, li_1103515245, neg_nI, nltT, nltF, neqT, neqF, mlt_n, nlt_m, meq_n, neq_m, meq_mT, meq_mF, mlt_mT, mlt_mF, nI_cl, gd_in, gd_T, Option.bind_some, pI_ne, pI_eq, pI_2, pL_1, pL_ne, pL_eq, pL_22, upEq, upN, aN_at, aN_up, nU_e, nU_n, aAdd_n, aAdd_nm, aSub_p, aSub_n, aSub_mn, aSub_mm, aMul_n, aDiv_n, aRem_n, eq_self_iff_true]
theorem g12_0 (n t : Nat) (b0 b1 b2 : Int32) (s : SS) : g_X12G (n + 1) t b0 b1 b2 (lN 0) s = some s := by
  have e : lCmp (lN 0) (lN 0) = nI 0 := by rw [lCmp_n (by omega) (by omega)]; rfl
  rw [g12_s, gt_eq, ll_0, e, li_0, if_pos rfl]
theorem m_gtB {G : Wd} {A : Nat → Nat} {k : PH → Nat → Nat × Nat} {one un hr m p n Z B0 D0 : Nat} (hD0 : D0 ≤ 12) (ok : WOK G) (hA : AOK G A) (hh : hr < 24) (hp : p < G.P) (hn : 0 < n)
    (hN : ∀ (q : PH) (w dp B : Nat) (s : SS), 0 < w → w * 12 ^ m * Z < 10000000000000 → GD G q B → B + m < B0 → dp + m ≤ D0 → MoS s G A q one un → ∃ s', g_X12G n 0 (nI hr) (nI (p + 1)) (nI dp) (lN w) s = some s' ∧ ThZ s' G ∧ MoQ dp s s' (spP k G A hr m (p + 1) q w))
    (q : PH) (w dp B : Nat) (s : SS) (hw : 0 < w) (hw2 : w * 12 ^ (m + 1) * Z < 10000000000000) (hG : GD G q B) (hB : B + (m + 1) < B0) (hdp : dp + (m + 1) ≤ D0) (hS : MoS s G A q one un) :
    ∃ s', gtB (g_X12G n) (nI hr) (nI p) (nI dp) (lN w) s = some s' ∧ ThZ s' G ∧ MoQ dp s s' (spP k G A hr (m + 1) p q w) := by
  have i1 := ok.1
  have i2 := hG.1 p
  obtain ⟨h1, h2, h3, h4, h5, h6⟩ := hS
  have hS : MoS s G A q one un := ⟨h1, h2, h3, h4, h5, h6⟩
  have hpow : ∀ x, x ≤ 12 → w * x * 12 ^ m * Z < 10000000000000 := by
    intro x hx
    have : w * x * 12 ^ m ≤ w * 12 ^ (m + 1) := by
      rw [Nat.pow_succ, Nat.mul_assoc, Nat.mul_comm (12 ^ m) 12]
      exact Nat.mul_le_mul_left _ (Nat.mul_le_mul_right _ hx)
    exact Nat.lt_of_le_of_lt (Nat.mul_le_mul_right Z this) hw2
  rw [spP]
  unfold gtB
  by_cases c0 : q.1 p = 0
  · have e0 : nuF G A p (A p) hr (G.br p) (q.1 p) = 0 := by unfold nuF; rw [if_pos c0]
    obtain ⟨s', a1, a2, a3⟩ := hN q (w * 12) (dp + 1) B s (by omega) (hpow 12 (by omega)) hG (by omega) (by omega) hS
    refine ⟨s', ?_, a2, ?_⟩
    · simp (disch := omega) only [↓reduceIte, li_0, li_1, li_2, li_3, li_4, li_5, li_6, li_7, li_8, li_9, li_10, li_11, li_12, li_13, li_14, li_15, li_16, li_17, li_18, li_19, li_20, li_21, li_22, li_23, li_24, li_25, li_26, li_27, li_28, li_29, li_30, li_31, li_32, li_33, li_34, li_35, li_36, li_37, li_38, li_39, li_40, li_41, li_42, li_43, li_44, li_45, li_46, li_47, li_48, li_49, li_50, li_51, li_52, li_53, li_54, li_55, li_56, li_57, li_58, li_59, li_60, li_61, li_62, li_63, li_70, li_80, li_81, li_95, li_98, li_99, li_100, li_101, li_102, li_103, li_104, li_105, li_106, li_107, li_108, li_109, li_110, li_111, li_112, li_120, li_122, li_124, li_126, li_130, li_168, li_175, li_200, li_255, li_260, li_360, li_1440, li_12345, li_1000000, li_1103515245, neg_nI, nltT, nltF, neqT, neqF, mlt_n, nlt_m, meq_n, neq_m, meq_mT, meq_mF, mlt_mT, mlt_mF, nI_cl, gd_in, gd_T, Option.bind_some, pI_ne, pI_eq, pI_2, pL_1, pL_ne, pL_eq, pL_22, upEq, upN, aN_at, aN_up, nU_e, nU_n, aAdd_n, aAdd_nm, aSub_p, aSub_n, aSub_mn, aSub_mm, aMul_n, aDiv_n, aRem_n, eq_self_iff_true, h2, ll_12, l_mul, a1]
    · have l1 : (0 : Nat) < 12 := by omega
      have l2 : ¬ (0 : Nat) < 0 := by omega
      rw [e0, if_pos l1, if_pos l1, if_neg l2, if_neg l2]
      have := MoQ_tr (dp := dp) (MoQ_nil (dp := dp) (s := s) rfl (fun _ _ _ _ _ _ _ _ => rfl) (fun _ _ => rfl) (fun _ _ => rfl)) a3 (by omega) (by omega)
      simp only [Nat.zero_add, Nat.add_zero, Nat.sub_zero] at this ⊢
      exact this
  · obtain ⟨s1, a1, a2, a3⟩ := m_falls h1 ok hA h2 h3 hp hh hG.1
    have n12 := nuF_le G A p (A p) hr (G.br p) (q.1 p)
    generalize hnu : nuF G A p (A p) hr (G.br p) (q.1 p) = nu at *
    obtain ⟨s2, b1, b2, b3, b4, b5, b6, b7⟩ := m_keep (by omega : dp ≤ 12) s1
    have S2 : MoS s2 G A q one un := MoS_fr hS (fun c x y z w v u t => by rw [b6 c u t, a2 c x y]) (by rw [b6 97 (by omega) (by omega), a2 97 (by omega) (by omega)]; exact h2) (by rw [b6 99 (by omega) (by omega), a2 99 (by omega) (by omega)]; exact h4)
    have Q2 : MoQ dp s s2 (0, 0) := MoQ_nil (by rw [b7, a3]) (fun c x y z w v u t => by rw [b6 c u t, a2 c x y]) (fun k x => by rw [b4 k x, a2 102 (by omega) (by omega)]) (fun k x => by rw [b5 k x, a2 103 (by omega) (by omega)])
    have Z2 : ThZ s2 G := ThZ_of hA hG S2.2.1 S2.2.2.1 S2.2.2.2.1
    by_cases c1 : 0 < nu
    · obtain ⟨s3, c1', c2, c3, c4, c5, c6⟩ := m_fall S2.1 ok hA hG S2.2.1 S2.2.2.1 S2.2.2.2.1 hp c0
      have S3 : MoS s3 G A (faF G A q p) one un := MoS_fr S2 (fun c x y z w v u t => c5 c z w v) c2 c3
      obtain ⟨s4, d1, d2, d3⟩ := hN (faF G A q p) (w * nu) (dp + 1) (B + 1) s3 (Nat.mul_pos hw c1) (hpow nu n12) (GD_fa hG hA hp c0) (by omega) (by omega) S3
      obtain ⟨s5, e1, e2, e3, e4, e5, e6, e7⟩ := m_layBack (by omega : dp ≤ 12) s4
      obtain ⟨x1, x2, x3, x4, x5, x6, x7⟩ := d3
      have r97 : s5.1 97 = aN q.1 := by
        funext k
        rcases Nat.lt_or_ge k 6 with e | e
        · rw [e2 k e, x6 _ (by omega), c5 102 (by omega) (by omega) (by omega), b2 k e, a2 97 (by omega) (by omega), h2]
        · rw [e4 k e, d2.1 k (by omega), aN_at, hG.2.1 k (by omega)]
      have r99 : s5.1 99 = aN q.2 := by
        funext k
        have i3 := ok.2.1
        rcases Nat.lt_or_ge k 7 with e | e
        · rw [e3 k e, x7 _ (by omega), c5 103 (by omega) (by omega) (by omega), b3 k e, a2 99 (by omega) (by omega), h4]
        · rw [e5 k e, d2.2.2 k (by omega), aN_at, hG.2.2.2 k (by omega)]
      have S5 : MoS s5 G A q one un := MoS_fr S3 (fun c x y z w v u t => by rw [e6 c z w, x5 c x y z w v u t]) r97 r99
      have Q3 : MoQ dp s2 s3 (0, 0) := MoQ_nil c6 (fun c x y z w v u t => c5 c z w v) (fun k x => by rw [c5 102 (by omega) (by omega) (by omega)]) (fun k x => by rw [c5 103 (by omega) (by omega) (by omega)])
      have Q5 : MoQ dp s4 s5 (0, 0) := MoQ_nil e7 (fun c x y z w v u t => e6 c z w) (fun k x => by rw [e6 102 (by omega) (by omega)]) (fun k x => by rw [e6 103 (by omega) (by omega)])
      have Q6 := MoQ_tr (dp := dp) (MoQ_tr (dp := dp) (MoQ_tr (dp := dp) Q2 Q3 (by omega) (by omega)) ⟨x1, x2, x3, x4, x5, x6, x7⟩ (by omega) (by omega)) Q5 (by omega) (by omega)
      simp only [Nat.zero_add, Nat.add_zero] at Q6
      by_cases c2' : nu < 12
      · obtain ⟨s6, f1, f2, f3⟩ := hN q (w * (12 - nu)) (dp + 1) B s5 (Nat.mul_pos hw (by omega)) (hpow _ (by omega)) hG (by omega) (by omega) S5
        refine ⟨s6, ?_, f2, ?_⟩
        · simp (disch := omega) only [↓reduceIte, li_0, li_1, li_2, li_3, li_4, li_5, li_6, li_7, li_8, li_9, li_10, li_11, li_12, li_13, li_14, li_15, li_16, li_17, li_18, li_19, li_20, li_21, li_22, li_23, li_24, li_25, li_26, li_27, li_28, li_29, li_30, li_31, li_32, li_33, li_34, li_35, li_36, li_37, li_38, li_39, li_40, li_41, li_42, li_43, li_44, li_45, li_46, li_47, li_48, li_49, li_50, li_51, li_52, li_53, li_54, li_55, li_56, li_57, li_58, li_59, li_60, li_61, li_62, li_63, li_70, li_80, li_81, li_95, li_98, li_99, li_100, li_101, li_102, li_103, li_104, li_105, li_106, li_107, li_108, li_109, li_110, li_111, li_112, li_120, li_122, li_124, li_126, li_130, li_168, li_175, li_200, li_255, li_260, li_360, li_1440, li_12345, li_1000000, li_1103515245, neg_nI, nltT, nltF, neqT, neqF, mlt_n, nlt_m, meq_n, neq_m, meq_mT, meq_mF, mlt_mT, mlt_mF, nI_cl, gd_in, gd_T, Option.bind_some, pI_ne, pI_eq, pI_2, pL_1, pL_ne, pL_eq, pL_22, upEq, upN, aN_at, aN_up, nU_e, nU_n, aAdd_n, aAdd_nm, aSub_p, aSub_n, aSub_mn, aSub_mm, aMul_n, aDiv_n, aRem_n, eq_self_iff_true, h2, a1, b1, c1', i2l, l_mul, d1, e1, f1]
        · rw [if_pos c2', if_pos c2', if_pos c1, if_pos c1]
          have Q7 := MoQ_tr (dp := dp) Q6 f3 (by omega) (by omega)
          rw [Nat.add_comm (spP k G A hr m (p + 1) q (w * (12 - nu))).1, Nat.add_comm (spP k G A hr m (p + 1) q (w * (12 - nu))).2]
          exact Q7
      · refine ⟨s5, ?_, ThZ_of hA hG r97 S5.2.2.1 r99, ?_⟩
        · have e12 : nu = 12 := by omega
          subst e12
          obtain ⟨n, rfl⟩ : ∃ n', n = n' + 1 := ⟨n - 1, by omega⟩
          simp (disch := omega) only [↓reduceIte, li_0, li_1, li_2, li_3, li_4, li_5, li_6, li_7, li_8, li_9, li_10, li_11, li_12, li_13, li_14, li_15, li_16, li_17, li_18, li_19, li_20, li_21, li_22, li_23, li_24, li_25, li_26, li_27, li_28, li_29, li_30, li_31, li_32, li_33, li_34, li_35, li_36, li_37, li_38, li_39, li_40, li_41, li_42, li_43, li_44, li_45, li_46, li_47, li_48, li_49, li_50, li_51, li_52, li_53, li_54, li_55, li_56, li_57, li_58, li_59, li_60, li_61, li_62, li_63, li_70, li_80, li_81, li_95, li_98, li_99, li_100, li_101, li_102, li_103, li_104, li_105, li_106, li_107, li_108, li_109, li_110, li_111, li_112, li_120, li_122, li_124, li_126, li_130, li_168, li_175, li_200, li_255, li_260, li_360, li_1440, li_12345, li_1000000, li_1103515245, neg_nI, nltT, nltF, neqT, neqF, mlt_n, nlt_m, meq_n, neq_m, meq_mT, meq_mF, mlt_mT, mlt_mF, nI_cl, gd_in, gd_T, Option.bind_some, pI_ne, pI_eq, pI_2, pL_1, pL_ne, pL_eq, pL_22, upEq, upN, aN_at, aN_up, nU_e, nU_n, aAdd_n, aAdd_nm, aSub_p, aSub_n, aSub_mn, aSub_mm, aMul_n, aDiv_n, aRem_n, eq_self_iff_true, h2, a1, b1, c1', i2l, l_mul, d1, e1, Nat.sub_self, Nat.mul_zero, g12_0]
        · rw [if_neg c2', if_neg c2', if_pos c1, if_pos c1, Nat.zero_add, Nat.zero_add]
          exact Q6
    · have e0 : nu = 0 := by omega
      subst e0
      obtain ⟨s6, f1, f2, f3⟩ := hN q (w * 12) (dp + 1) B s2 (by omega) (hpow _ (by omega)) hG (by omega) (by omega) S2
      refine ⟨s6, ?_, f2, ?_⟩
      · simp (disch := omega) only [↓reduceIte, li_0, li_1, li_2, li_3, li_4, li_5, li_6, li_7, li_8, li_9, li_10, li_11, li_12, li_13, li_14, li_15, li_16, li_17, li_18, li_19, li_20, li_21, li_22, li_23, li_24, li_25, li_26, li_27, li_28, li_29, li_30, li_31, li_32, li_33, li_34, li_35, li_36, li_37, li_38, li_39, li_40, li_41, li_42, li_43, li_44, li_45, li_46, li_47, li_48, li_49, li_50, li_51, li_52, li_53, li_54, li_55, li_56, li_57, li_58, li_59, li_60, li_61, li_62, li_63, li_70, li_80, li_81, li_95, li_98, li_99, li_100, li_101, li_102, li_103, li_104, li_105, li_106, li_107, li_108, li_109, li_110, li_111, li_112, li_120, li_122, li_124, li_126, li_130, li_168, li_175, li_200, li_255, li_260, li_360, li_1440, li_12345, li_1000000, li_1103515245, neg_nI, nltT, nltF, neqT, neqF, mlt_n, nlt_m, meq_n, neq_m, meq_mT, meq_mF, mlt_mT, mlt_mF, nI_cl, gd_in, gd_T, Option.bind_some, pI_ne, pI_eq, pI_2, pL_1, pL_ne, pL_eq, pL_22, upEq, upN, aN_at, aN_up, nU_e, nU_n, aAdd_n, aAdd_nm, aSub_p, aSub_n, aSub_mn, aSub_mm, aMul_n, aDiv_n, aRem_n, eq_self_iff_true, h2, a1, b1, i2l, l_mul, Nat.sub_zero, f1]
      · have l1 : (0 : Nat) < 12 := by omega
        have l2 : ¬ (0 : Nat) < 0 := by omega
        rw [if_pos l1, if_pos l1, if_neg l2, if_neg l2]
        have Q7 := MoQ_tr (dp := dp) Q2 f3 (by omega) (by omega)
        simp only [Nat.zero_add, Nat.add_zero, Nat.sub_zero] at Q7 ⊢
        exact Q7
