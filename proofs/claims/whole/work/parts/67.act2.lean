/-! acts: what comes of them -/
abbrev TS : Type := (Nat → Int32) × Nat
def pu (t : TS) (c : Nat) : TS := (va_up t.1 t.2 (nI c), t.2 + 1)
noncomputable def sitF (kd : Nat) (b v : Int32) (t : TS) : Int32 × TS := if kd = 1 ∨ kd = 4 then (aAdd (aAdd v b) (nI 3), pu (pu t 20) 1) else if kd = 7 then (aSub (aMul (aAdd v b) (nI 2)) (nI 1), pu (pu (pu t 81) 70) 1) else if kd = 6 then (aMul (aAdd v b) (nI 2), pu (pu t 70) 1) else (aAdd v b, pu t 1)
noncomputable def plF (kd : Nat) (b v : Int32) (t : TS) : Int32 × TS := (aMul (sitF kd b v (pu t 10)).1 (nI 2), (sitF kd b v (pu t 10)).2)
noncomputable def blF (kd : Nat) (b v : Int32) (t : TS) : Int32 × TS := (aNeg (plF kd b v (pu t 30)).1, (plF kd b v (pu t 30)).2)
noncomputable def plL (b v : Int32) (t : TS) : Int32 × TS := (aXor v b, pu t 11)
noncomputable def caL (b v : Int32) (t : TS) : Int32 × TS := (aMul (plL b v (pu t 40)).1 (nI 3), (plL b v (pu t 40)).2)
noncomputable def lanF (kd : Nat) (b v : Int32) (t : TS) : Int32 × TS := if kd = 5 then (aSub (caL b v (pu t 60)).1 (sitF kd b (nI 2) (caL b v (pu t 60)).2).1, (sitF kd b (nI 2) (caL b v (pu t 60)).2).2) else if kd = 3 then caL b v t else plL b v t
noncomputable def falF (kd : Nat) (b v : Int32) (t : TS) : Int32 × TS := if kd = 3 ∨ kd = 5 then blF kd b (aAdd v (nI 1)) (pu t 41) else if kd = 7 then (aAdd (plF kd b v (pu t 80)).1 (lanF kd b (nI 2) (plF kd b v (pu t 80)).2).1, (lanF kd b (nI 2) (plF kd b v (pu t 80)).2).2) else if kd = 2 then blF kd b v t else plF kd b v t
noncomputable def plR (kd : Nat) (b v : Int32) (t : TS) : Int32 × TS := (aSub (falF kd b v (pu t 2)).1 (lanF kd b (nI 1) (falF kd b v (pu t 2)).2).1, (lanF kd b (nI 1) (falF kd b v (pu t 2)).2).2)
noncomputable def raR (kd : Nat) (b v : Int32) (t : TS) : Int32 × TS := if kd = 4 then (aXor (plR kd b v (pu t 50)).1 (nI 5), (plR kd b v (pu t 50)).2) else if kd = 5 then (aAdd (plR kd b v (pu t 61)).1 (nI 1), (plR kd b v (pu t 61)).2) else plR kd b v t
def PA (s : SS) (sb : Int32) (kd : Nat) (t : TS) : Prop := s.1 55 1 = nI t.2 ∧ s.1 57 = t.1 ∧ s.1 55 4 = sb ∧ ∃ bs j, s.1 55 0 = nI bs ∧ sb = nI j ∧ j < bs ∧ bs ≤ 50 ∧ s.1 56 j = nI kd
def FrA (s s' : SS) : Prop := (∀ c, c ≠ 55 → c ≠ 57 → s'.1 c = s.1 c) ∧ (∀ k, k ≠ 1 → s'.1 55 k = s.1 55 k) ∧ s'.2 = s.2
def AO (e : Option (Int32 × SS)) (s : SS) (sb : Int32) (kd : Nat) (r : Int32 × TS) : Prop := ∃ s', e = some (r.1, s') ∧ PA s' sb kd r.2 ∧ FrA s s'
theorem FrA_rfl (s : SS) : FrA s s := ⟨fun _ _ _ => rfl, fun _ _ => rfl, rfl⟩
theorem FrA_tr {s s1 s2 : SS} (h : FrA s s1) (h' : FrA s1 s2) : FrA s s2 := ⟨fun c x y => by rw [h'.1 c x y, h.1 c x y], fun k x => by rw [h'.2.1 k x, h.2.1 k x], by rw [h'.2.2, h.2.2]⟩
theorem psh_PA {s : SS} {sb : Int32} {kd : Nat} {t : TS} (c : Nat) (h : PA s sb kd t) : PA (psh s t.2 c) sb kd (pu t c) ∧ FrA s (psh s t.2 c) := by
  obtain ⟨h1, h2, h3, bs, j, h4, h5, h6, h7, h8⟩ := h
  unfold psh pu
  refine ⟨⟨by simp (disch := omega) only [↓reduceIte, li_0, li_1, li_2, li_3, li_4, li_5, li_6, li_7, li_8, li_9, li_10, li_11, li_12, li_13, li_14, li_15, li_16, li_17, li_18, li_19, li_20, li_21, li_22, li_23, li_24, li_25, li_26, li_27, li_28, li_29, li_30, li_31, li_32, li_33, li_34, li_35, li_36, li_37, li_38, li_39, li_40, li_41, li_42, li_43, li_44, li_45, li_46, li_47, li_48, li_49, li_50, li_51, li_52, li_53, li_54, li_55, li_56, li_57, li_58, li_59, li_60, li_61, li_62, li_63, li_70, li_80, li_81, li_95, li_98, li_99, li_100, li_101, li_102, li_103, li_104, li_105, li_106, li_107, li_108, li_109, li_110, li_111, li_112, li_120, li_122, li_124, li_126, li_130, li_168, li_175, li_200, li_255, li_260, li_360, li_1440, li_12345, li_1000000, li_1103515245, neg_nI, nltT, nltF, neqT, neqF, mlt_n, nlt_m, meq_n, neq_m, meq_mT, meq_mF, mlt_mT, mlt_mF, nI_cl, gd_in, gd_T, Option.bind_some, pI_ne, pI_eq, pI_2, pL_1, pL_ne, pL_eq, pL_22, upEq, upN, aN_at, aN_up, nU_e, nU_n, aAdd_n, aAdd_nm, aSub_p, aSub_n, aSub_mn, aSub_mm, aMul_n, aDiv_n, aRem_n, eq_self_iff_true], by simp (disch := omega) only [↓reduceIte, li_0, li_1, li_2, li_3, li_4, li_5, li_6, li_7, li_8, li_9, li_10, li_11, li_12, li_13, li_14, li_15, li_16, li_17, li_18, li_19, li_20, li_21, li_22, li_23, li_24, li_25, li_26, li_27, li_28, li_29, li_30, li_31, li_32, li_33, li_34, li_35, li_36, li_37, li_38, li_39, li_40, li_41, li_42, li_43, li_44, li_45, li_46, li_47, li_48, li_49, li_50, li_51, li_52, li_53, li_54, li_55, li_56, li_57, li_58, li_59, li_60, li_61, li_62, li_63, li_70, li_80, li_81, li_95, li_98, li_99, li_100, li_101, li_102, li_103, li_104, li_105, li_106, li_107, li_108, li_109, li_110, li_111, li_112, li_120, li_122, li_124, li_126, li_130, li_168, li_175, li_200, li_255, li_260, li_360, li_1440, li_12345, li_1000000, li_1103515245, neg_nI, nltT, nltF, neqT, neqF, mlt_n, nlt_m, meq_n, neq_m, meq_mT, meq_mF, mlt_mT, mlt_mF, nI_cl, gd_in, gd_T, Option.bind_some, pI_ne, pI_eq, pI_2, pL_1, pL_ne, pL_eq, pL_22, upEq, upN, aN_at, aN_up, nU_e, nU_n, aAdd_n, aAdd_nm, aSub_p, aSub_n, aSub_mn, aSub_mm, aMul_n, aDiv_n, aRem_n, eq_self_iff_true, h2], by simp (disch := omega) only [↓reduceIte, li_0, li_1, li_2, li_3, li_4, li_5, li_6, li_7, li_8, li_9, li_10, li_11, li_12, li_13, li_14, li_15, li_16, li_17, li_18, li_19, li_20, li_21, li_22, li_23, li_24, li_25, li_26, li_27, li_28, li_29, li_30, li_31, li_32, li_33, li_34, li_35, li_36, li_37, li_38, li_39, li_40, li_41, li_42, li_43, li_44, li_45, li_46, li_47, li_48, li_49, li_50, li_51, li_52, li_53, li_54, li_55, li_56, li_57, li_58, li_59, li_60, li_61, li_62, li_63, li_70, li_80, li_81, li_95, li_98, li_99, li_100, li_101, li_102, li_103, li_104, li_105, li_106, li_107, li_108, li_109, li_110, li_111, li_112, li_120, li_122, li_124, li_126, li_130, li_168, li_175, li_200, li_255, li_260, li_360, li_1440, li_12345, li_1000000, li_1103515245, neg_nI, nltT, nltF, neqT, neqF, mlt_n, nlt_m, meq_n, neq_m, meq_mT, meq_mF, mlt_mT, mlt_mF, nI_cl, gd_in, gd_T, Option.bind_some, pI_ne, pI_eq, pI_2, pL_1, pL_ne, pL_eq, pL_22, upEq, upN, aN_at, aN_up, nU_e, nU_n, aAdd_n, aAdd_nm, aSub_p, aSub_n, aSub_mn, aSub_mm, aMul_n, aDiv_n, aRem_n, eq_self_iff_true, h3], bs, j, by simp (disch := omega) only [↓reduceIte, li_0, li_1, li_2, li_3, li_4, li_5, li_6, li_7, li_8, li_9, li_10, li_11, li_12, li_13, li_14, li_15, li_16, li_17, li_18, li_19, li_20, li_21, li_22, li_23, li_24, li_25, li_26, li_27, li_28, li_29, li_30, li_31, li_32, li_33, li_34, li_35, li_36, li_37, li_38, li_39, li_40, li_41, li_42, li_43, li_44, li_45, li_46, li_47, li_48, li_49, li_50, li_51, li_52, li_53, li_54, li_55, li_56, li_57, li_58, li_59, li_60, li_61, li_62, li_63, li_70, li_80, li_81, li_95, li_98, li_99, li_100, li_101, li_102, li_103, li_104, li_105, li_106, li_107, li_108, li_109, li_110, li_111, li_112, li_120, li_122, li_124, li_126, li_130, li_168, li_175, li_200, li_255, li_260, li_360, li_1440, li_12345, li_1000000, li_1103515245, neg_nI, nltT, nltF, neqT, neqF, mlt_n, nlt_m, meq_n, neq_m, meq_mT, meq_mF, mlt_mT, mlt_mF, nI_cl, gd_in, gd_T, Option.bind_some, pI_ne, pI_eq, pI_2, pL_1, pL_ne, pL_eq, pL_22, upEq, upN, aN_at, aN_up, nU_e, nU_n, aAdd_n, aAdd_nm, aSub_p, aSub_n, aSub_mn, aSub_mm, aMul_n, aDiv_n, aRem_n, eq_self_iff_true, h4], h5, h6, h7, by simp (disch := omega) only [↓reduceIte, li_0, li_1, li_2, li_3, li_4, li_5, li_6, li_7, li_8, li_9, li_10, li_11, li_12, li_13, li_14, li_15, li_16, li_17, li_18, li_19, li_20, li_21, li_22, li_23, li_24, li_25, li_26, li_27, li_28, li_29, li_30, li_31, li_32, li_33, li_34, li_35, li_36, li_37, li_38, li_39, li_40, li_41, li_42, li_43, li_44, li_45, li_46, li_47, li_48, li_49, li_50, li_51, li_52, li_53, li_54, li_55, li_56, li_57, li_58, li_59, li_60, li_61, li_62, li_63, li_70, li_80, li_81, li_95, li_98, li_99, li_100, li_101, li_102, li_103, li_104, li_105, li_106, li_107, li_108, li_109, li_110, li_111, li_112, li_120, li_122, li_124, li_126, li_130, li_168, li_175, li_200, li_255, li_260, li_360, li_1440, li_12345, li_1000000, li_1103515245, neg_nI, nltT, nltF, neqT, neqF, mlt_n, nlt_m, meq_n, neq_m, meq_mT, meq_mF, mlt_mT, mlt_mF, nI_cl, gd_in, gd_T, Option.bind_some, pI_ne, pI_eq, pI_2, pL_1, pL_ne, pL_eq, pL_22, upEq, upN, aN_at, aN_up, nU_e, nU_n, aAdd_n, aAdd_nm, aSub_p, aSub_n, aSub_mn, aSub_mm, aMul_n, aDiv_n, aRem_n, eq_self_iff_true, h8]⟩, fun c x y => by simp (disch := omega) only [↓reduceIte, li_0, li_1, li_2, li_3, li_4, li_5, li_6, li_7, li_8, li_9, li_10, li_11, li_12, li_13, li_14, li_15, li_16, li_17, li_18, li_19, li_20, li_21, li_22, li_23, li_24, li_25, li_26, li_27, li_28, li_29, li_30, li_31, li_32, li_33, li_34, li_35, li_36, li_37, li_38, li_39, li_40, li_41, li_42, li_43, li_44, li_45, li_46, li_47, li_48, li_49, li_50, li_51, li_52, li_53, li_54, li_55, li_56, li_57, li_58, li_59, li_60, li_61, li_62, li_63, li_70, li_80, li_81, li_95, li_98, li_99, li_100, li_101, li_102, li_103, li_104, li_105, li_106, li_107, li_108, li_109, li_110, li_111, li_112, li_120, li_122, li_124, li_126, li_130, li_168, li_175, li_200, li_255, li_260, li_360, li_1440, li_12345, li_1000000, li_1103515245, neg_nI, nltT, nltF, neqT, neqF, mlt_n, nlt_m, meq_n, neq_m, meq_mT, meq_mF, mlt_mT, mlt_mF, nI_cl, gd_in, gd_T, Option.bind_some, pI_ne, pI_eq, pI_2, pL_1, pL_ne, pL_eq, pL_22, upEq, upN, aN_at, aN_up, nU_e, nU_n, aAdd_n, aAdd_nm, aSub_p, aSub_n, aSub_mn, aSub_mm, aMul_n, aDiv_n, aRem_n, eq_self_iff_true], fun k x => by simp (disch := omega) only [↓reduceIte, li_0, li_1, li_2, li_3, li_4, li_5, li_6, li_7, li_8, li_9, li_10, li_11, li_12, li_13, li_14, li_15, li_16, li_17, li_18, li_19, li_20, li_21, li_22, li_23, li_24, li_25, li_26, li_27, li_28, li_29, li_30, li_31, li_32, li_33, li_34, li_35, li_36, li_37, li_38, li_39, li_40, li_41, li_42, li_43, li_44, li_45, li_46, li_47, li_48, li_49, li_50, li_51, li_52, li_53, li_54, li_55, li_56, li_57, li_58, li_59, li_60, li_61, li_62, li_63, li_70, li_80, li_81, li_95, li_98, li_99, li_100, li_101, li_102, li_103, li_104, li_105, li_106, li_107, li_108, li_109, li_110, li_111, li_112, li_120, li_122, li_124, li_126, li_130, li_168, li_175, li_200, li_255, li_260, li_360, li_1440, li_12345, li_1000000, li_1103515245, neg_nI, nltT, nltF, neqT, neqF, mlt_n, nlt_m, meq_n, neq_m, meq_mT, meq_mF, mlt_mT, mlt_mF, nI_cl, gd_in, gd_T, Option.bind_some, pI_ne, pI_eq, pI_2, pL_1, pL_ne, pL_eq, pL_22, upEq, upN, aN_at, aN_up, nU_e, nU_n, aAdd_n, aAdd_nm, aSub_p, aSub_n, aSub_mn, aSub_mm, aMul_n, aDiv_n, aRem_n, eq_self_iff_true], rfl⟩
theorem AO_map {e : Option (Int32 × SS)} {s : SS} {sb : Int32} {kd : Nat} {r : Int32 × TS} (f : Int32 → Int32) (h : AO e s sb kd r) : AO (e.bind fun q => some (f q.1, q.2)) s sb kd (f r.1, r.2) := by
  obtain ⟨s', a1, a2, a3⟩ := h
  exact ⟨s', by rw [a1]; rfl, a2, a3⟩
theorem AO_seq {e : Option (Int32 × SS)} {e2 : SS → Option (Int32 × SS)} {s : SS} {sb : Int32} {kd : Nat} {r r2 : Int32 × TS} (f : Int32 → Int32 → Int32) (h : AO e s sb kd r) (h2 : ∀ s1, PA s1 sb kd r.2 → AO (e2 s1) s1 sb kd r2) : AO (e.bind fun q => (e2 q.2).bind fun q' => some (f q.1 q'.1, q'.2)) s sb kd (f r.1 r2.1, r2.2) := by
  obtain ⟨s1, a1, a2, a3⟩ := h
  obtain ⟨s2, b1, b2, b3⟩ := h2 s1 a2
  exact ⟨s2, by rw [a1, Option.bind_some, b1]; rfl, b2, FrA_tr a3 b3⟩
theorem AO_psh {e : Option (Int32 × SS)} {s : SS} {sb : Int32} {kd c : Nat} {t : TS} {r : Int32 × TS} (h : PA s sb kd t) (h2 : PA (psh s t.2 c) sb kd (pu t c) → AO e (psh s t.2 c) sb kd r) : AO e s sb kd r := by
  obtain ⟨a, b⟩ := psh_PA c h
  obtain ⟨s', c1, c2, c3⟩ := h2 a
  exact ⟨s', c1, c2, FrA_tr b c3⟩
theorem own_eq {s : SS} {sb : Int32} {kd n : Nat} {t : TS} (a v d x : Int32) (h : PA s sb kd t) : g_X0R (n + 1) 1 a v d x s = g_X0R n 0 (nI kd) a v d s := by
  obtain ⟨h1, h2, h3, bs, j, h4, rfl, h6, h7, h8⟩ := h
  rw [gA1]
  unfold f_X0_performOwn f_X0_kindOf
  simp (disch := omega) only [↓reduceIte, li_0, li_1, li_2, li_3, li_4, li_5, li_6, li_7, li_8, li_9, li_10, li_11, li_12, li_13, li_14, li_15, li_16, li_17, li_18, li_19, li_20, li_21, li_22, li_23, li_24, li_25, li_26, li_27, li_28, li_29, li_30, li_31, li_32, li_33, li_34, li_35, li_36, li_37, li_38, li_39, li_40, li_41, li_42, li_43, li_44, li_45, li_46, li_47, li_48, li_49, li_50, li_51, li_52, li_53, li_54, li_55, li_56, li_57, li_58, li_59, li_60, li_61, li_62, li_63, li_70, li_80, li_81, li_95, li_98, li_99, li_100, li_101, li_102, li_103, li_104, li_105, li_106, li_107, li_108, li_109, li_110, li_111, li_112, li_120, li_122, li_124, li_126, li_130, li_168, li_175, li_200, li_255, li_260, li_360, li_1440, li_12345, li_1000000, li_1103515245, neg_nI, nltT, nltF, neqT, neqF, mlt_n, nlt_m, meq_n, neq_m, meq_mT, meq_mF, mlt_mT, mlt_mF, nI_cl, gd_in, gd_T, Option.bind_some, pI_ne, pI_eq, pI_2, pL_1, pL_ne, pL_eq, pL_22, upEq, upN, aN_at, aN_up, nU_e, nU_n, aAdd_n, aAdd_nm, aSub_p, aSub_n, aSub_mn, aSub_mm, aMul_n, aDiv_n, aRem_n, eq_self_iff_true, h3, c0_has h4, inR_T, tB_T, h8]
  rw [b_eta]
theorem rn_10 (n : Nat) (up v d : Int32) (s : SS) : g_X0R (n + 1) 2 (nI 10) up v d s = (g_X0R n 1 (nI 0) v d (nI 0) s).bind fun q => some (aMul q.1 (nI 2), q.2) := by
  rw [gA2]
  unfold f_X0_run
  simp (disch := omega) only [↓reduceIte, li_0, li_1, li_2, li_3, li_4, li_5, li_6, li_7, li_8, li_9, li_10, li_11, li_12, li_13, li_14, li_15, li_16, li_17, li_18, li_19, li_20, li_21, li_22, li_23, li_24, li_25, li_26, li_27, li_28, li_29, li_30, li_31, li_32, li_33, li_34, li_35, li_36, li_37, li_38, li_39, li_40, li_41, li_42, li_43, li_44, li_45, li_46, li_47, li_48, li_49, li_50, li_51, li_52, li_53, li_54, li_55, li_56, li_57, li_58, li_59, li_60, li_61, li_62, li_63, li_70, li_80, li_81, li_95, li_98, li_99, li_100, li_101, li_102, li_103, li_104, li_105, li_106, li_107, li_108, li_109, li_110, li_111, li_112, li_120, li_122, li_124, li_126, li_130, li_168, li_175, li_200, li_255, li_260, li_360, li_1440, li_12345, li_1000000, li_1103515245, neg_nI, nltT, nltF, neqT, neqF, mlt_n, nlt_m, meq_n, neq_m, meq_mT, meq_mF, mlt_mT, mlt_mF, nI_cl, gd_in, gd_T, Option.bind_some, pI_ne, pI_eq, pI_2, pL_1, pL_ne, pL_eq, pL_22, upEq, upN, aN_at, aN_up, nU_e, nU_n, aAdd_n, aAdd_nm, aSub_p, aSub_n, aSub_mn, aSub_mm, aMul_n, aDiv_n, aRem_n, eq_self_iff_true]
theorem rn_20 (n : Nat) (up v d : Int32) (s : SS) : g_X0R (n + 1) 2 (nI 20) up v d s = (g_X0R n 0 up (nI 0) v d s).bind fun q => some (aAdd q.1 (nI 3), q.2) := by
  rw [gA2]
  unfold f_X0_run
  simp (disch := omega) only [↓reduceIte, li_0, li_1, li_2, li_3, li_4, li_5, li_6, li_7, li_8, li_9, li_10, li_11, li_12, li_13, li_14, li_15, li_16, li_17, li_18, li_19, li_20, li_21, li_22, li_23, li_24, li_25, li_26, li_27, li_28, li_29, li_30, li_31, li_32, li_33, li_34, li_35, li_36, li_37, li_38, li_39, li_40, li_41, li_42, li_43, li_44, li_45, li_46, li_47, li_48, li_49, li_50, li_51, li_52, li_53, li_54, li_55, li_56, li_57, li_58, li_59, li_60, li_61, li_62, li_63, li_70, li_80, li_81, li_95, li_98, li_99, li_100, li_101, li_102, li_103, li_104, li_105, li_106, li_107, li_108, li_109, li_110, li_111, li_112, li_120, li_122, li_124, li_126, li_130, li_168, li_175, li_200, li_255, li_260, li_360, li_1440, li_12345, li_1000000, li_1103515245, neg_nI, nltT, nltF, neqT, neqF, mlt_n, nlt_m, meq_n, neq_m, meq_mT, meq_mF, mlt_mT, mlt_mF, nI_cl, gd_in, gd_T, Option.bind_some, pI_ne, pI_eq, pI_2, pL_1, pL_ne, pL_eq, pL_22, upEq, upN, aN_at, aN_up, nU_e, nU_n, aAdd_n, aAdd_nm, aSub_p, aSub_n, aSub_mn, aSub_mm, aMul_n, aDiv_n, aRem_n, eq_self_iff_true]
theorem rn_30 (n : Nat) (up v d : Int32) (s : SS) : g_X0R (n + 1) 2 (nI 30) up v d s = (g_X0R n 0 up (nI 1) v d s).bind fun q => some (aNeg q.1, q.2) := by
  rw [gA2]
  unfold f_X0_run
  simp (disch := omega) only [↓reduceIte, li_0, li_1, li_2, li_3, li_4, li_5, li_6, li_7, li_8, li_9, li_10, li_11, li_12, li_13, li_14, li_15, li_16, li_17, li_18, li_19, li_20, li_21, li_22, li_23, li_24, li_25, li_26, li_27, li_28, li_29, li_30, li_31, li_32, li_33, li_34, li_35, li_36, li_37, li_38, li_39, li_40, li_41, li_42, li_43, li_44, li_45, li_46, li_47, li_48, li_49, li_50, li_51, li_52, li_53, li_54, li_55, li_56, li_57, li_58, li_59, li_60, li_61, li_62, li_63, li_70, li_80, li_81, li_95, li_98, li_99, li_100, li_101, li_102, li_103, li_104, li_105, li_106, li_107, li_108, li_109, li_110, li_111, li_112, li_120, li_122, li_124, li_126, li_130, li_168, li_175, li_200, li_255, li_260, li_360, li_1440, li_12345, li_1000000, li_1103515245, neg_nI, nltT, nltF, neqT, neqF, mlt_n, nlt_m, meq_n, neq_m, meq_mT, meq_mF, mlt_mT, mlt_mF, nI_cl, gd_in, gd_T, Option.bind_some, pI_ne, pI_eq, pI_2, pL_1, pL_ne, pL_eq, pL_22, upEq, upN, aN_at, aN_up, nU_e, nU_n, aAdd_n, aAdd_nm, aSub_p, aSub_n, aSub_mn, aSub_mm, aMul_n, aDiv_n, aRem_n, eq_self_iff_true]
theorem rn_40 (n : Nat) (up v d : Int32) (s : SS) : g_X0R (n + 1) 2 (nI 40) up v d s = (g_X0R n 0 up (nI 2) v d s).bind fun q => some (aMul q.1 (nI 3), q.2) := by
  rw [gA2]
  unfold f_X0_run
  simp (disch := omega) only [↓reduceIte, li_0, li_1, li_2, li_3, li_4, li_5, li_6, li_7, li_8, li_9, li_10, li_11, li_12, li_13, li_14, li_15, li_16, li_17, li_18, li_19, li_20, li_21, li_22, li_23, li_24, li_25, li_26, li_27, li_28, li_29, li_30, li_31, li_32, li_33, li_34, li_35, li_36, li_37, li_38, li_39, li_40, li_41, li_42, li_43, li_44, li_45, li_46, li_47, li_48, li_49, li_50, li_51, li_52, li_53, li_54, li_55, li_56, li_57, li_58, li_59, li_60, li_61, li_62, li_63, li_70, li_80, li_81, li_95, li_98, li_99, li_100, li_101, li_102, li_103, li_104, li_105, li_106, li_107, li_108, li_109, li_110, li_111, li_112, li_120, li_122, li_124, li_126, li_130, li_168, li_175, li_200, li_255, li_260, li_360, li_1440, li_12345, li_1000000, li_1103515245, neg_nI, nltT, nltF, neqT, neqF, mlt_n, nlt_m, meq_n, neq_m, meq_mT, meq_mF, mlt_mT, mlt_mF, nI_cl, gd_in, gd_T, Option.bind_some, pI_ne, pI_eq, pI_2, pL_1, pL_ne, pL_eq, pL_22, upEq, upN, aN_at, aN_up, nU_e, nU_n, aAdd_n, aAdd_nm, aSub_p, aSub_n, aSub_mn, aSub_mm, aMul_n, aDiv_n, aRem_n, eq_self_iff_true]
theorem rn_41 (n : Nat) (up v d : Int32) (s : SS) : g_X0R (n + 1) 2 (nI 41) up v d s = (g_X0R n 0 up (nI 1) (aAdd v (nI 1)) d s).bind fun q => some (q.1, q.2) := by
  rw [gA2]
  unfold f_X0_run
  simp (disch := omega) only [↓reduceIte, li_0, li_1, li_2, li_3, li_4, li_5, li_6, li_7, li_8, li_9, li_10, li_11, li_12, li_13, li_14, li_15, li_16, li_17, li_18, li_19, li_20, li_21, li_22, li_23, li_24, li_25, li_26, li_27, li_28, li_29, li_30, li_31, li_32, li_33, li_34, li_35, li_36, li_37, li_38, li_39, li_40, li_41, li_42, li_43, li_44, li_45, li_46, li_47, li_48, li_49, li_50, li_51, li_52, li_53, li_54, li_55, li_56, li_57, li_58, li_59, li_60, li_61, li_62, li_63, li_70, li_80, li_81, li_95, li_98, li_99, li_100, li_101, li_102, li_103, li_104, li_105, li_106, li_107, li_108, li_109, li_110, li_111, li_112, li_120, li_122, li_124, li_126, li_130, li_168, li_175, li_200, li_255, li_260, li_360, li_1440, li_12345, li_1000000, li_1103515245, neg_nI, nltT, nltF, neqT, neqF, mlt_n, nlt_m, meq_n, neq_m, meq_mT, meq_mF, mlt_mT, mlt_mF, nI_cl, gd_in, gd_T, Option.bind_some, pI_ne, pI_eq, pI_2, pL_1, pL_ne, pL_eq, pL_22, upEq, upN, aN_at, aN_up, nU_e, nU_n, aAdd_n, aAdd_nm, aSub_p, aSub_n, aSub_mn, aSub_mm, aMul_n, aDiv_n, aRem_n, eq_self_iff_true]
theorem rn_50 (n : Nat) (up v d : Int32) (s : SS) : g_X0R (n + 1) 2 (nI 50) up v d s = (g_X0R n 0 up (nI 3) v d s).bind fun q => some (aXor q.1 (nI 5), q.2) := by
  rw [gA2]
  unfold f_X0_run
  simp (disch := omega) only [↓reduceIte, li_0, li_1, li_2, li_3, li_4, li_5, li_6, li_7, li_8, li_9, li_10, li_11, li_12, li_13, li_14, li_15, li_16, li_17, li_18, li_19, li_20, li_21, li_22, li_23, li_24, li_25, li_26, li_27, li_28, li_29, li_30, li_31, li_32, li_33, li_34, li_35, li_36, li_37, li_38, li_39, li_40, li_41, li_42, li_43, li_44, li_45, li_46, li_47, li_48, li_49, li_50, li_51, li_52, li_53, li_54, li_55, li_56, li_57, li_58, li_59, li_60, li_61, li_62, li_63, li_70, li_80, li_81, li_95, li_98, li_99, li_100, li_101, li_102, li_103, li_104, li_105, li_106, li_107, li_108, li_109, li_110, li_111, li_112, li_120, li_122, li_124, li_126, li_130, li_168, li_175, li_200, li_255, li_260, li_360, li_1440, li_12345, li_1000000, li_1103515245, neg_nI, nltT, nltF, neqT, neqF, mlt_n, nlt_m, meq_n, neq_m, meq_mT, meq_mF, mlt_mT, mlt_mF, nI_cl, gd_in, gd_T, Option.bind_some, pI_ne, pI_eq, pI_2, pL_1, pL_ne, pL_eq, pL_22, upEq, upN, aN_at, aN_up, nU_e, nU_n, aAdd_n, aAdd_nm, aSub_p, aSub_n, aSub_mn, aSub_mm, aMul_n, aDiv_n, aRem_n, eq_self_iff_true]
theorem rn_61 (n : Nat) (up v d : Int32) (s : SS) : g_X0R (n + 1) 2 (nI 61) up v d s = (g_X0R n 0 up (nI 3) v d s).bind fun q => some (aAdd q.1 (nI 1), q.2) := by
  rw [gA2]
  unfold f_X0_run
  simp (disch := omega) only [↓reduceIte, li_0, li_1, li_2, li_3, li_4, li_5, li_6, li_7, li_8, li_9, li_10, li_11, li_12, li_13, li_14, li_15, li_16, li_17, li_18, li_19, li_20, li_21, li_22, li_23, li_24, li_25, li_26, li_27, li_28, li_29, li_30, li_31, li_32, li_33, li_34, li_35, li_36, li_37, li_38, li_39, li_40, li_41, li_42, li_43, li_44, li_45, li_46, li_47, li_48, li_49, li_50, li_51, li_52, li_53, li_54, li_55, li_56, li_57, li_58, li_59, li_60, li_61, li_62, li_63, li_70, li_80, li_81, li_95, li_98, li_99, li_100, li_101, li_102, li_103, li_104, li_105, li_106, li_107, li_108, li_109, li_110, li_111, li_112, li_120, li_122, li_124, li_126, li_130, li_168, li_175, li_200, li_255, li_260, li_360, li_1440, li_12345, li_1000000, li_1103515245, neg_nI, nltT, nltF, neqT, neqF, mlt_n, nlt_m, meq_n, neq_m, meq_mT, meq_mF, mlt_mT, mlt_mF, nI_cl, gd_in, gd_T, Option.bind_some, pI_ne, pI_eq, pI_2, pL_1, pL_ne, pL_eq, pL_22, upEq, upN, aN_at, aN_up, nU_e, nU_n, aAdd_n, aAdd_nm, aSub_p, aSub_n, aSub_mn, aSub_mm, aMul_n, aDiv_n, aRem_n, eq_self_iff_true]
theorem rn_70 (n : Nat) (up v d : Int32) (s : SS) : g_X0R (n + 1) 2 (nI 70) up v d s = (g_X0R n 0 up (nI 0) v d s).bind fun q => some (aMul q.1 (nI 2), q.2) := by
  rw [gA2]
  unfold f_X0_run
  simp (disch := omega) only [↓reduceIte, li_0, li_1, li_2, li_3, li_4, li_5, li_6, li_7, li_8, li_9, li_10, li_11, li_12, li_13, li_14, li_15, li_16, li_17, li_18, li_19, li_20, li_21, li_22, li_23, li_24, li_25, li_26, li_27, li_28, li_29, li_30, li_31, li_32, li_33, li_34, li_35, li_36, li_37, li_38, li_39, li_40, li_41, li_42, li_43, li_44, li_45, li_46, li_47, li_48, li_49, li_50, li_51, li_52, li_53, li_54, li_55, li_56, li_57, li_58, li_59, li_60, li_61, li_62, li_63, li_70, li_80, li_81, li_95, li_98, li_99, li_100, li_101, li_102, li_103, li_104, li_105, li_106, li_107, li_108, li_109, li_110, li_111, li_112, li_120, li_122, li_124, li_126, li_130, li_168, li_175, li_200, li_255, li_260, li_360, li_1440, li_12345, li_1000000, li_1103515245, neg_nI, nltT, nltF, neqT, neqF, mlt_n, nlt_m, meq_n, neq_m, meq_mT, meq_mF, mlt_mT, mlt_mF, nI_cl, gd_in, gd_T, Option.bind_some, pI_ne, pI_eq, pI_2, pL_1, pL_ne, pL_eq, pL_22, upEq, upN, aN_at, aN_up, nU_e, nU_n, aAdd_n, aAdd_nm, aSub_p, aSub_n, aSub_mn, aSub_mm, aMul_n, aDiv_n, aRem_n, eq_self_iff_true]
theorem rn_81 (n : Nat) (up v d : Int32) (s : SS) : g_X0R (n + 1) 2 (nI 81) up v d s = (g_X0R n 0 up (nI 0) v d s).bind fun q => some (aSub q.1 (nI 1), q.2) := by
  rw [gA2]
  unfold f_X0_run
  simp (disch := omega) only [↓reduceIte, li_0, li_1, li_2, li_3, li_4, li_5, li_6, li_7, li_8, li_9, li_10, li_11, li_12, li_13, li_14, li_15, li_16, li_17, li_18, li_19, li_20, li_21, li_22, li_23, li_24, li_25, li_26, li_27, li_28, li_29, li_30, li_31, li_32, li_33, li_34, li_35, li_36, li_37, li_38, li_39, li_40, li_41, li_42, li_43, li_44, li_45, li_46, li_47, li_48, li_49, li_50, li_51, li_52, li_53, li_54, li_55, li_56, li_57, li_58, li_59, li_60, li_61, li_62, li_63, li_70, li_80, li_81, li_95, li_98, li_99, li_100, li_101, li_102, li_103, li_104, li_105, li_106, li_107, li_108, li_109, li_110, li_111, li_112, li_120, li_122, li_124, li_126, li_130, li_168, li_175, li_200, li_255, li_260, li_360, li_1440, li_12345, li_1000000, li_1103515245, neg_nI, nltT, nltF, neqT, neqF, mlt_n, nlt_m, meq_n, neq_m, meq_mT, meq_mF, mlt_mT, mlt_mF, nI_cl, gd_in, gd_T, Option.bind_some, pI_ne, pI_eq, pI_2, pL_1, pL_ne, pL_eq, pL_22, upEq, upN, aN_at, aN_up, nU_e, nU_n, aAdd_n, aAdd_nm, aSub_p, aSub_n, aSub_mn, aSub_mm, aMul_n, aDiv_n, aRem_n, eq_self_iff_true]
theorem rn_2 (n : Nat) (up v d : Int32) (s : SS) : g_X0R (n + 1) 2 (nI 2) up v d s = (g_X0R n 1 (nI 1) v d (nI 0) s).bind fun q => (g_X0R n 1 (nI 2) (nI 1) d (nI 0) q.2).bind fun q2 => some (aSub q.1 q2.1, q2.2) := by
  rw [gA2]
  unfold f_X0_run
  simp (disch := omega) only [↓reduceIte, li_0, li_1, li_2, li_3, li_4, li_5, li_6, li_7, li_8, li_9, li_10, li_11, li_12, li_13, li_14, li_15, li_16, li_17, li_18, li_19, li_20, li_21, li_22, li_23, li_24, li_25, li_26, li_27, li_28, li_29, li_30, li_31, li_32, li_33, li_34, li_35, li_36, li_37, li_38, li_39, li_40, li_41, li_42, li_43, li_44, li_45, li_46, li_47, li_48, li_49, li_50, li_51, li_52, li_53, li_54, li_55, li_56, li_57, li_58, li_59, li_60, li_61, li_62, li_63, li_70, li_80, li_81, li_95, li_98, li_99, li_100, li_101, li_102, li_103, li_104, li_105, li_106, li_107, li_108, li_109, li_110, li_111, li_112, li_120, li_122, li_124, li_126, li_130, li_168, li_175, li_200, li_255, li_260, li_360, li_1440, li_12345, li_1000000, li_1103515245, neg_nI, nltT, nltF, neqT, neqF, mlt_n, nlt_m, meq_n, neq_m, meq_mT, meq_mF, mlt_mT, mlt_mF, nI_cl, gd_in, gd_T, Option.bind_some, pI_ne, pI_eq, pI_2, pL_1, pL_ne, pL_eq, pL_22, upEq, upN, aN_at, aN_up, nU_e, nU_n, aAdd_n, aAdd_nm, aSub_p, aSub_n, aSub_mn, aSub_mm, aMul_n, aDiv_n, aRem_n, eq_self_iff_true]
theorem rn_60 (n : Nat) (up v d : Int32) (s : SS) : g_X0R (n + 1) 2 (nI 60) up v d s = (g_X0R n 0 up (nI 2) v d s).bind fun q => (g_X0R n 1 (nI 0) (nI 2) d (nI 0) q.2).bind fun q2 => some (aSub q.1 q2.1, q2.2) := by
  rw [gA2]
  unfold f_X0_run
  simp (disch := omega) only [↓reduceIte, li_0, li_1, li_2, li_3, li_4, li_5, li_6, li_7, li_8, li_9, li_10, li_11, li_12, li_13, li_14, li_15, li_16, li_17, li_18, li_19, li_20, li_21, li_22, li_23, li_24, li_25, li_26, li_27, li_28, li_29, li_30, li_31, li_32, li_33, li_34, li_35, li_36, li_37, li_38, li_39, li_40, li_41, li_42, li_43, li_44, li_45, li_46, li_47, li_48, li_49, li_50, li_51, li_52, li_53, li_54, li_55, li_56, li_57, li_58, li_59, li_60, li_61, li_62, li_63, li_70, li_80, li_81, li_95, li_98, li_99, li_100, li_101, li_102, li_103, li_104, li_105, li_106, li_107, li_108, li_109, li_110, li_111, li_112, li_120, li_122, li_124, li_126, li_130, li_168, li_175, li_200, li_255, li_260, li_360, li_1440, li_12345, li_1000000, li_1103515245, neg_nI, nltT, nltF, neqT, neqF, mlt_n, nlt_m, meq_n, neq_m, meq_mT, meq_mF, mlt_mT, mlt_mF, nI_cl, gd_in, gd_T, Option.bind_some, pI_ne, pI_eq, pI_2, pL_1, pL_ne, pL_eq, pL_22, upEq, upN, aN_at, aN_up, nU_e, nU_n, aAdd_n, aAdd_nm, aSub_p, aSub_n, aSub_mn, aSub_mm, aMul_n, aDiv_n, aRem_n, eq_self_iff_true]
theorem rn_80 (n : Nat) (up v d : Int32) (s : SS) : g_X0R (n + 1) 2 (nI 80) up v d s = (g_X0R n 0 up (nI 1) v d s).bind fun q => (g_X0R n 1 (nI 2) (nI 2) d (nI 0) q.2).bind fun q2 => some (aAdd q.1 q2.1, q2.2) := by
  rw [gA2]
  unfold f_X0_run
  simp (disch := omega) only [↓reduceIte, li_0, li_1, li_2, li_3, li_4, li_5, li_6, li_7, li_8, li_9, li_10, li_11, li_12, li_13, li_14, li_15, li_16, li_17, li_18, li_19, li_20, li_21, li_22, li_23, li_24, li_25, li_26, li_27, li_28, li_29, li_30, li_31, li_32, li_33, li_34, li_35, li_36, li_37, li_38, li_39, li_40, li_41, li_42, li_43, li_44, li_45, li_46, li_47, li_48, li_49, li_50, li_51, li_52, li_53, li_54, li_55, li_56, li_57, li_58, li_59, li_60, li_61, li_62, li_63, li_70, li_80, li_81, li_95, li_98, li_99, li_100, li_101, li_102, li_103, li_104, li_105, li_106, li_107, li_108, li_109, li_110, li_111, li_112, li_120, li_122, li_124, li_126, li_130, li_168, li_175, li_200, li_255, li_260, li_360, li_1440, li_12345, li_1000000, li_1103515245, neg_nI, nltT, nltF, neqT, neqF, mlt_n, nlt_m, meq_n, neq_m, meq_mT, meq_mF, mlt_mT, mlt_mF, nI_cl, gd_in, gd_T, Option.bind_some, pI_ne, pI_eq, pI_2, pL_1, pL_ne, pL_eq, pL_22, upEq, upN, aN_at, aN_up, nU_e, nU_n, aAdd_n, aAdd_nm, aSub_p, aSub_n, aSub_mn, aSub_mm, aMul_n, aDiv_n, aRem_n, eq_self_iff_true]
theorem rn_1 (n : Nat) (up v d : Int32) (s : SS) : g_X0R (n + 1) 2 (nI 1) up v d s = some (aAdd v (s.1 55 4), s) := by
  rw [gA2]
  unfold f_X0_run
  simp (disch := omega) only [↓reduceIte, li_0, li_1, li_2, li_3, li_4, li_5, li_6, li_7, li_8, li_9, li_10, li_11, li_12, li_13, li_14, li_15, li_16, li_17, li_18, li_19, li_20, li_21, li_22, li_23, li_24, li_25, li_26, li_27, li_28, li_29, li_30, li_31, li_32, li_33, li_34, li_35, li_36, li_37, li_38, li_39, li_40, li_41, li_42, li_43, li_44, li_45, li_46, li_47, li_48, li_49, li_50, li_51, li_52, li_53, li_54, li_55, li_56, li_57, li_58, li_59, li_60, li_61, li_62, li_63, li_70, li_80, li_81, li_95, li_98, li_99, li_100, li_101, li_102, li_103, li_104, li_105, li_106, li_107, li_108, li_109, li_110, li_111, li_112, li_120, li_122, li_124, li_126, li_130, li_168, li_175, li_200, li_255, li_260, li_360, li_1440, li_12345, li_1000000, li_1103515245, neg_nI, nltT, nltF, neqT, neqF, mlt_n, nlt_m, meq_n, neq_m, meq_mT, meq_mF, mlt_mT, mlt_mF, nI_cl, gd_in, gd_T, Option.bind_some, pI_ne, pI_eq, pI_2, pL_1, pL_ne, pL_eq, pL_22, upEq, upN, aN_at, aN_up, nU_e, nU_n, aAdd_n, aAdd_nm, aSub_p, aSub_n, aSub_mn, aSub_mm, aMul_n, aDiv_n, aRem_n, eq_self_iff_true]
theorem rn_11 (n : Nat) (up v d : Int32) (s : SS) : g_X0R (n + 1) 2 (nI 11) up v d s = some (aXor v (s.1 55 4), s) := by
  rw [gA2]
  unfold f_X0_run
  simp (disch := omega) only [↓reduceIte, li_0, li_1, li_2, li_3, li_4, li_5, li_6, li_7, li_8, li_9, li_10, li_11, li_12, li_13, li_14, li_15, li_16, li_17, li_18, li_19, li_20, li_21, li_22, li_23, li_24, li_25, li_26, li_27, li_28, li_29, li_30, li_31, li_32, li_33, li_34, li_35, li_36, li_37, li_38, li_39, li_40, li_41, li_42, li_43, li_44, li_45, li_46, li_47, li_48, li_49, li_50, li_51, li_52, li_53, li_54, li_55, li_56, li_57, li_58, li_59, li_60, li_61, li_62, li_63, li_70, li_80, li_81, li_95, li_98, li_99, li_100, li_101, li_102, li_103, li_104, li_105, li_106, li_107, li_108, li_109, li_110, li_111, li_112, li_120, li_122, li_124, li_126, li_130, li_168, li_175, li_200, li_255, li_260, li_360, li_1440, li_12345, li_1000000, li_1103515245, neg_nI, nltT, nltF, neqT, neqF, mlt_n, nlt_m, meq_n, neq_m, meq_mT, meq_mF, mlt_mT, mlt_mF, nI_cl, gd_in, gd_T, Option.bind_some, pI_ne, pI_eq, pI_2, pL_1, pL_ne, pL_eq, pL_22, upEq, upN, aN_at, aN_up, nU_e, nU_n, aAdd_n, aAdd_nm, aSub_p, aSub_n, aSub_mn, aSub_mm, aMul_n, aDiv_n, aRem_n, eq_self_iff_true]
theorem cs_0 {s : SS} {sb : Int32} {kd dep n : Nat} {t : TS} (v : Int32) (h : PA s sb kd t) (ht : t.2 < 24) (hd : dep ≤ 40) : AO (g_X0R (n + 2) 0 (nI 0) (nI 0) v (nI dep) s) s sb kd (aAdd v sb, pu t 1) := by
  rw [pf_0_0 v h.1 ht hd, rn_1]
  refine AO_psh (c := 1) h (fun h1 => ⟨_, by rw [h1.2.2.1], h1, FrA_rfl _⟩)
theorem cs_2 {s : SS} {sb : Int32} {kd dep n : Nat} {t : TS} (v : Int32) (h : PA s sb kd t) (ht : t.2 < 24) (hd : dep ≤ 40) : AO (g_X0R (n + 2) 0 (nI 2) (nI 0) v (nI dep) s) s sb kd (aAdd v sb, pu t 1) := by
  rw [pf_2_0 v h.1 ht hd, rn_1]
  refine AO_psh (c := 1) h (fun h1 => ⟨_, by rw [h1.2.2.1], h1, FrA_rfl _⟩)
theorem cs_3 {s : SS} {sb : Int32} {kd dep n : Nat} {t : TS} (v : Int32) (h : PA s sb kd t) (ht : t.2 < 24) (hd : dep ≤ 40) : AO (g_X0R (n + 2) 0 (nI 3) (nI 0) v (nI dep) s) s sb kd (aAdd v sb, pu t 1) := by
  rw [pf_3_0 v h.1 ht hd, rn_1]
  refine AO_psh (c := 1) h (fun h1 => ⟨_, by rw [h1.2.2.1], h1, FrA_rfl _⟩)
theorem cs_5 {s : SS} {sb : Int32} {kd dep n : Nat} {t : TS} (v : Int32) (h : PA s sb kd t) (ht : t.2 < 24) (hd : dep ≤ 40) : AO (g_X0R (n + 2) 0 (nI 5) (nI 0) v (nI dep) s) s sb kd (aAdd v sb, pu t 1) := by
  rw [pf_5_0 v h.1 ht hd, rn_1]
  refine AO_psh (c := 1) h (fun h1 => ⟨_, by rw [h1.2.2.1], h1, FrA_rfl _⟩)
theorem cl_0 {s : SS} {sb : Int32} {kd dep n : Nat} {t : TS} (v : Int32) (h : PA s sb kd t) (ht : t.2 < 24) (hd : dep ≤ 40) : AO (g_X0R (n + 2) 0 (nI 0) (nI 2) v (nI dep) s) s sb kd (plL sb v t) := by
  rw [pf_0_2 v h.1 ht hd, rn_11]
  refine AO_psh (c := 11) h (fun h1 => ⟨_, by rw [h1.2.2.1]; rfl, h1, FrA_rfl _⟩)
theorem cl_1 {s : SS} {sb : Int32} {kd dep n : Nat} {t : TS} (v : Int32) (h : PA s sb kd t) (ht : t.2 < 24) (hd : dep ≤ 40) : AO (g_X0R (n + 2) 0 (nI 1) (nI 2) v (nI dep) s) s sb kd (plL sb v t) := by
  rw [pf_1_2 v h.1 ht hd, rn_11]
  refine AO_psh (c := 11) h (fun h1 => ⟨_, by rw [h1.2.2.1]; rfl, h1, FrA_rfl _⟩)
theorem cl_2 {s : SS} {sb : Int32} {kd dep n : Nat} {t : TS} (v : Int32) (h : PA s sb kd t) (ht : t.2 < 24) (hd : dep ≤ 40) : AO (g_X0R (n + 2) 0 (nI 2) (nI 2) v (nI dep) s) s sb kd (plL sb v t) := by
  rw [pf_2_2 v h.1 ht hd, rn_11]
  refine AO_psh (c := 11) h (fun h1 => ⟨_, by rw [h1.2.2.1]; rfl, h1, FrA_rfl _⟩)
theorem cl_4 {s : SS} {sb : Int32} {kd dep n : Nat} {t : TS} (v : Int32) (h : PA s sb kd t) (ht : t.2 < 24) (hd : dep ≤ 40) : AO (g_X0R (n + 2) 0 (nI 4) (nI 2) v (nI dep) s) s sb kd (plL sb v t) := by
  rw [pf_4_2 v h.1 ht hd, rn_11]
  refine AO_psh (c := 11) h (fun h1 => ⟨_, by rw [h1.2.2.1]; rfl, h1, FrA_rfl _⟩)
theorem cl_6 {s : SS} {sb : Int32} {kd dep n : Nat} {t : TS} (v : Int32) (h : PA s sb kd t) (ht : t.2 < 24) (hd : dep ≤ 40) : AO (g_X0R (n + 2) 0 (nI 6) (nI 2) v (nI dep) s) s sb kd (plL sb v t) := by
  rw [pf_6_2 v h.1 ht hd, rn_11]
  refine AO_psh (c := 11) h (fun h1 => ⟨_, by rw [h1.2.2.1]; rfl, h1, FrA_rfl _⟩)
theorem cl_7 {s : SS} {sb : Int32} {kd dep n : Nat} {t : TS} (v : Int32) (h : PA s sb kd t) (ht : t.2 < 24) (hd : dep ≤ 40) : AO (g_X0R (n + 2) 0 (nI 7) (nI 2) v (nI dep) s) s sb kd (plL sb v t) := by
  rw [pf_7_2 v h.1 ht hd, rn_11]
  refine AO_psh (c := 11) h (fun h1 => ⟨_, by rw [h1.2.2.1]; rfl, h1, FrA_rfl _⟩)
theorem cs_1 {s : SS} {sb : Int32} {kd dep n : Nat} {t : TS} (v : Int32) (h : PA s sb kd t) (ht : t.2 + 1 < 24) (hd : dep + 1 ≤ 40) : AO (g_X0R (n + 4) 0 (nI 1) (nI 0) v (nI dep) s) s sb kd (aAdd (aAdd v sb) (nI 3), pu (pu t 20) 1) := by
  rw [pf_1_0 v h.1 (by omega) (by omega), rn_20]
  refine AO_psh (c := 20) h (fun h1 => ?_)
  exact AO_map (fun z => aAdd z (nI 3)) (cs_0 v h1 (by show t.2 + 1 < 24; omega) (by omega))
theorem cs_4 {s : SS} {sb : Int32} {kd dep n : Nat} {t : TS} (v : Int32) (h : PA s sb kd t) (ht : t.2 + 1 < 24) (hd : dep + 1 ≤ 40) : AO (g_X0R (n + 4) 0 (nI 4) (nI 0) v (nI dep) s) s sb kd (aAdd (aAdd v sb) (nI 3), pu (pu t 20) 1) := by
  rw [pf_4_0 v h.1 (by omega) (by omega), rn_20]
  refine AO_psh (c := 20) h (fun h1 => ?_)
  exact AO_map (fun z => aAdd z (nI 3)) (cs_0 v h1 (by show t.2 + 1 < 24; omega) (by omega))
theorem cs_6 {s : SS} {sb : Int32} {kd dep n : Nat} {t : TS} (v : Int32) (h : PA s sb kd t) (ht : t.2 + 1 < 24) (hd : dep + 1 ≤ 40) : AO (g_X0R (n + 4) 0 (nI 6) (nI 0) v (nI dep) s) s sb kd (aMul (aAdd v sb) (nI 2), pu (pu t 70) 1) := by
  rw [pf_6_0 v h.1 (by omega) (by omega), rn_70]
  refine AO_psh (c := 70) h (fun h1 => ?_)
  exact AO_map (fun z => aMul z (nI 2)) (cs_0 v h1 (by show t.2 + 1 < 24; omega) (by omega))
theorem cs_7 {s : SS} {sb : Int32} {kd dep n : Nat} {t : TS} (v : Int32) (h : PA s sb kd t) (ht : t.2 + 2 < 24) (hd : dep + 2 ≤ 40) : AO (g_X0R (n + 6) 0 (nI 7) (nI 0) v (nI dep) s) s sb kd (aSub (aMul (aAdd v sb) (nI 2)) (nI 1), pu (pu (pu t 81) 70) 1) := by
  rw [pf_7_0 v h.1 (by omega) (by omega), rn_81]
  refine AO_psh (c := 81) h (fun h1 => ?_)
  exact AO_map (fun z => aSub z (nI 1)) (cs_6 v h1 (by show t.2 + 1 + _ < 24; omega) (by omega))
theorem cl_3 {s : SS} {sb : Int32} {kd dep n : Nat} {t : TS} (v : Int32) (h : PA s sb kd t) (ht : t.2 + 1 < 24) (hd : dep + 1 ≤ 40) : AO (g_X0R (n + 4) 0 (nI 3) (nI 2) v (nI dep) s) s sb kd (caL sb v t) := by
  rw [pf_3_2 v h.1 (by omega) (by omega), rn_40]
  refine AO_psh (c := 40) h (fun h1 => ?_)
  exact AO_map (fun z => aMul z (nI 3)) (cl_2 v h1 (by show t.2 + 1 < 24; omega) (by omega))
theorem c_sits {s : SS} {sb : Int32} {kd dep n : Nat} {t : TS} (v : Int32) (h : PA s sb kd t) (hk : kd ≤ 7) (hn : 6 ≤ n) (ht : t.2 + 2 < 24) (hd : dep + 2 ≤ 40) : AO (g_X0R n 0 (nI kd) (nI 0) v (nI dep) s) s sb kd (sitF kd sb v t) := by
  obtain ⟨n, rfl⟩ : ∃ n', n = n' + 6 := ⟨n - 6, by omega⟩
  unfold sitF
  match kd, hk with
  | 0, _ => exact cs_0 v h (by omega) (by omega)
  | 1, _ => exact cs_1 v h (by omega) (by omega)
  | 2, _ => exact cs_2 v h (by omega) (by omega)
  | 3, _ => exact cs_3 v h (by omega) (by omega)
  | 4, _ => exact cs_4 v h (by omega) (by omega)
  | 5, _ => exact cs_5 v h (by omega) (by omega)
  | 6, _ => exact cs_6 v h (by omega) (by omega)
  | 7, _ => exact cs_7 v h (by omega) (by omega)
theorem sit_n (kd : Nat) (b v : Int32) (t : TS) : (sitF kd b v t).2.2 ≤ t.2 + 3 := by
  unfold sitF
  split
  · show t.2 + 1 + 1 ≤ _; omega
  · split
    · show t.2 + 1 + 1 + 1 ≤ _; omega
    · split
      · show t.2 + 1 + 1 ≤ _; omega
      · show t.2 + 1 ≤ _; omega
theorem cl_5 {s : SS} {sb : Int32} {kd dep n : Nat} {t : TS} (v : Int32) (h : PA s sb kd t) (hk : kd = 5) (ht : t.2 + 6 < 24) (hd : dep + 6 ≤ 40) : AO (g_X0R (n + 10) 0 (nI 5) (nI 2) v (nI dep) s) s sb kd (lanF 5 sb v t) := by
  subst hk
  rw [pf_5_2 v h.1 (by omega) (by omega), rn_60]
  refine AO_psh (c := 60) h (fun h1 => ?_)
  refine AO_seq (r := caL sb v (pu t 60)) (r2 := sitF 5 sb (nI 2) (caL sb v (pu t 60)).2) (fun a b => aSub a b) (cl_3 v h1 (by show t.2 + 1 + 1 < 24; omega) (by omega)) (fun s1 h2 => ?_)
  rw [own_eq _ _ _ _ h2]
  exact c_sits (nI 2) h2 (by omega) (by omega) (by show t.2 + 1 + 1 + 1 + 2 < 24; omega) (by omega)
theorem c_lands {s : SS} {sb : Int32} {kd dep n : Nat} {t : TS} (v : Int32) (h : PA s sb kd t) (hk : kd ≤ 7) (hn : 10 ≤ n) (ht : t.2 + 6 < 24) (hd : dep + 6 ≤ 40) : AO (g_X0R n 0 (nI kd) (nI 2) v (nI dep) s) s sb kd (lanF kd sb v t) := by
  obtain ⟨n, rfl⟩ : ∃ n', n = n' + 10 := ⟨n - 10, by omega⟩
  match kd, hk with
  | 0, _ => exact cl_0 v h (by omega) (by omega)
  | 1, _ => exact cl_1 v h (by omega) (by omega)
  | 2, _ => exact cl_2 v h (by omega) (by omega)
  | 3, _ => exact cl_3 v h (by omega) (by omega)
  | 4, _ => exact cl_4 v h (by omega) (by omega)
  | 5, _ => exact cl_5 v h rfl (by omega) (by omega)
  | 6, _ => exact cl_6 v h (by omega) (by omega)
  | 7, _ => exact cl_7 v h (by omega) (by omega)
theorem cf_0 {s : SS} {sb : Int32} {kd dep n : Nat} {t : TS} (v : Int32) (h : PA s sb kd t) (hk : kd ≤ 7) (ht : t.2 + 4 < 24) (hd : dep + 4 ≤ 40) : AO (g_X0R (n + 10) 0 (nI 0) (nI 1) v (nI dep) s) s sb kd (plF kd sb v t) := by
  rw [pf_0_1 v h.1 (by omega) (by omega), rn_10]
  refine AO_psh (c := 10) h (fun h1 => ?_)
  refine AO_map (fun z => aMul z (nI 2)) (r := sitF kd sb v (pu t 10)) ?_
  rw [own_eq _ _ _ _ h1]
  exact c_sits v h1 hk (by omega) (by show t.2 + 1 + 2 < 24; omega) (by omega)
theorem cf_1 {s : SS} {sb : Int32} {kd dep n : Nat} {t : TS} (v : Int32) (h : PA s sb kd t) (hk : kd ≤ 7) (ht : t.2 + 4 < 24) (hd : dep + 4 ≤ 40) : AO (g_X0R (n + 10) 0 (nI 1) (nI 1) v (nI dep) s) s sb kd (plF kd sb v t) := by
  rw [pf_1_1 v h.1 (by omega) (by omega), rn_10]
  refine AO_psh (c := 10) h (fun h1 => ?_)
  refine AO_map (fun z => aMul z (nI 2)) (r := sitF kd sb v (pu t 10)) ?_
  rw [own_eq _ _ _ _ h1]
  exact c_sits v h1 hk (by omega) (by show t.2 + 1 + 2 < 24; omega) (by omega)
theorem cf_4 {s : SS} {sb : Int32} {kd dep n : Nat} {t : TS} (v : Int32) (h : PA s sb kd t) (hk : kd ≤ 7) (ht : t.2 + 4 < 24) (hd : dep + 4 ≤ 40) : AO (g_X0R (n + 10) 0 (nI 4) (nI 1) v (nI dep) s) s sb kd (plF kd sb v t) := by
  rw [pf_4_1 v h.1 (by omega) (by omega), rn_10]
  refine AO_psh (c := 10) h (fun h1 => ?_)
  refine AO_map (fun z => aMul z (nI 2)) (r := sitF kd sb v (pu t 10)) ?_
  rw [own_eq _ _ _ _ h1]
  exact c_sits v h1 hk (by omega) (by show t.2 + 1 + 2 < 24; omega) (by omega)
theorem cf_6 {s : SS} {sb : Int32} {kd dep n : Nat} {t : TS} (v : Int32) (h : PA s sb kd t) (hk : kd ≤ 7) (ht : t.2 + 4 < 24) (hd : dep + 4 ≤ 40) : AO (g_X0R (n + 10) 0 (nI 6) (nI 1) v (nI dep) s) s sb kd (plF kd sb v t) := by
  rw [pf_6_1 v h.1 (by omega) (by omega), rn_10]
  refine AO_psh (c := 10) h (fun h1 => ?_)
  refine AO_map (fun z => aMul z (nI 2)) (r := sitF kd sb v (pu t 10)) ?_
  rw [own_eq _ _ _ _ h1]
  exact c_sits v h1 hk (by omega) (by show t.2 + 1 + 2 < 24; omega) (by omega)
theorem cf_2 {s : SS} {sb : Int32} {kd dep n : Nat} {t : TS} (v : Int32) (h : PA s sb kd t) (hk : kd ≤ 7) (ht : t.2 + 5 < 24) (hd : dep + 5 ≤ 40) : AO (g_X0R (n + 12) 0 (nI 2) (nI 1) v (nI dep) s) s sb kd (blF kd sb v t) := by
  rw [pf_2_1 v h.1 (by omega) (by omega), rn_30]
  refine AO_psh (c := 30) h (fun h1 => ?_)
  exact AO_map (fun z => aNeg z) (r := plF kd sb v (pu t 30)) (cf_0 v h1 hk (by show t.2 + 1 + 4 < 24; omega) (by omega))
theorem cf_3 {s : SS} {sb : Int32} {kd dep n : Nat} {t : TS} (v : Int32) (h : PA s sb kd t) (hk : kd ≤ 7) (ht : t.2 + 6 < 24) (hd : dep + 6 ≤ 40) : AO (g_X0R (n + 14) 0 (nI 3) (nI 1) v (nI dep) s) s sb kd (blF kd sb (aAdd v (nI 1)) (pu t 41)) := by
  rw [pf_3_1 v h.1 (by omega) (by omega), rn_41]
  refine AO_psh (c := 41) h (fun h1 => ?_)
  exact AO_map (fun z => z) (r := blF kd sb (aAdd v (nI 1)) (pu t 41)) (cf_2 (aAdd v (nI 1)) h1 hk (by show t.2 + 1 + 5 < 24; omega) (by omega))
theorem cf_5 {s : SS} {sb : Int32} {kd dep n : Nat} {t : TS} (v : Int32) (h : PA s sb kd t) (hk : kd ≤ 7) (ht : t.2 + 6 < 24) (hd : dep + 6 ≤ 40) : AO (g_X0R (n + 14) 0 (nI 5) (nI 1) v (nI dep) s) s sb kd (blF kd sb (aAdd v (nI 1)) (pu t 41)) := by
  rw [pf_5_1 v h.1 (by omega) (by omega), rn_41]
  refine AO_psh (c := 41) h (fun h1 => ?_)
  exact AO_map (fun z => z) (r := blF kd sb (aAdd v (nI 1)) (pu t 41)) (cf_2 (aAdd v (nI 1)) h1 hk (by show t.2 + 1 + 5 < 24; omega) (by omega))
theorem cf_7 {s : SS} {sb : Int32} {kd dep n : Nat} {t : TS} (v : Int32) (h : PA s sb kd t) (hk : kd = 7) (ht : t.2 + 12 < 24) (hd : dep + 12 ≤ 40) : AO (g_X0R (n + 14) 0 (nI 7) (nI 1) v (nI dep) s) s sb kd (falF 7 sb v t) := by
  subst hk
  rw [pf_7_1 v h.1 (by omega) (by omega), rn_80]
  refine AO_psh (c := 80) h (fun h1 => ?_)
  have e := sit_n 7 sb v (pu (pu t 80) 10)
  refine AO_seq (r := plF 7 sb v (pu t 80)) (r2 := lanF 7 sb (nI 2) (plF 7 sb v (pu t 80)).2) (fun a b => aAdd a b) (cf_6 v h1 (by omega) (by show t.2 + 1 + 4 < 24; omega) (by omega)) (fun s1 h2 => ?_)
  rw [own_eq _ _ _ _ h2]
  refine c_lands (nI 2) h2 (by omega) (by omega) ?_ (by omega)
  have e : (plF 7 sb v (pu t 80)).2.2 ≤ t.2 + 1 + 1 + 3 := e
  omega
theorem c_falls {s : SS} {sb : Int32} {kd dep n : Nat} {t : TS} (v : Int32) (h : PA s sb kd t) (hk : kd ≤ 7) (hn : 14 ≤ n) (ht : t.2 + 12 < 24) (hd : dep + 12 ≤ 40) : AO (g_X0R n 0 (nI kd) (nI 1) v (nI dep) s) s sb kd (falF kd sb v t) := by
  obtain ⟨n, rfl⟩ : ∃ n', n = n' + 14 := ⟨n - 14, by omega⟩
  match kd, hk with
  | 0, _ => exact cf_0 v h (by omega) (by omega) (by omega)
  | 1, _ => exact cf_1 v h (by omega) (by omega) (by omega)
  | 2, _ => exact cf_2 v h (by omega) (by omega) (by omega)
  | 3, _ => exact cf_3 v h (by omega) (by omega) (by omega)
  | 4, _ => exact cf_4 v h (by omega) (by omega) (by omega)
  | 5, _ => exact cf_5 v h (by omega) (by omega) (by omega)
  | 6, _ => exact cf_6 v h (by omega) (by omega) (by omega)
  | 7, _ => exact cf_7 v h rfl (by omega) (by omega)
theorem fal_n (kd : Nat) (b v : Int32) (t : TS) : (falF kd b v t).2.2 ≤ t.2 + 9 := by
  have pl : ∀ v (t : TS), (plF kd b v t).2.2 ≤ t.2 + 4 := fun v t => by
    have := sit_n kd b v (pu t 10)
    exact this
  have la : ∀ v (t : TS), kd ≠ 5 → (lanF kd b v t).2.2 ≤ t.2 + 2 := fun v t h => by
    unfold lanF
    rw [if_neg h]
    split
    · show t.2 + 1 + 1 ≤ _; omega
    · show t.2 + 1 ≤ _; omega
  have bl : ∀ v (t : TS), (blF kd b v t).2.2 ≤ t.2 + 5 := fun v t => by
    have := pl v (pu t 30)
    exact this
  unfold falF
  split
  · have := bl (aAdd v (nI 1)) (pu t 41)
    have e : (pu t 41).2 = t.2 + 1 := rfl
    omega
  · split
    · next h => 
      have e1 := la (nI 2) (plF kd b v (pu t 80)).2 (by omega)
      have e2 := pl v (pu t 80)
      have e : (pu t 80).2 = t.2 + 1 := rfl
      show (lanF kd b (nI 2) (plF kd b v (pu t 80)).2).2.2 ≤ _
      omega
    · split
      · have := bl v t; omega
      · have := pl v t; omega
theorem cr_0 {s : SS} {sb : Int32} {kd dep n : Nat} {t : TS} (v : Int32) (h : PA s sb kd t) (hk : kd ≤ 7) (ht : t.2 + 16 < 24) (hd : dep + 16 ≤ 40) : AO (g_X0R (n + 18) 0 (nI 0) (nI 3) v (nI dep) s) s sb kd (plR kd sb v t) := by
  rw [pf_0_3 v h.1 (by omega) (by omega), rn_2]
  refine AO_psh (c := 2) h (fun h1 => ?_)
  have e := fal_n kd sb v (pu t 2)
  have e0 : (pu t 2).2 = t.2 + 1 := rfl
  refine AO_seq (r := falF kd sb v (pu t 2)) (r2 := lanF kd sb (nI 1) (falF kd sb v (pu t 2)).2) (fun a b => aSub a b) ?_ (fun s1 h2 => ?_)
  · rw [own_eq _ _ _ _ h1]
    exact c_falls v h1 hk (by omega) (by omega) (by omega)
  · rw [own_eq _ _ _ _ h2]
    exact c_lands (nI 1) h2 hk (by omega) (by omega) (by omega)
theorem cr_1 {s : SS} {sb : Int32} {kd dep n : Nat} {t : TS} (v : Int32) (h : PA s sb kd t) (hk : kd ≤ 7) (ht : t.2 + 16 < 24) (hd : dep + 16 ≤ 40) : AO (g_X0R (n + 18) 0 (nI 1) (nI 3) v (nI dep) s) s sb kd (plR kd sb v t) := by
  rw [pf_1_3 v h.1 (by omega) (by omega), rn_2]
  refine AO_psh (c := 2) h (fun h1 => ?_)
  have e := fal_n kd sb v (pu t 2)
  have e0 : (pu t 2).2 = t.2 + 1 := rfl
  refine AO_seq (r := falF kd sb v (pu t 2)) (r2 := lanF kd sb (nI 1) (falF kd sb v (pu t 2)).2) (fun a b => aSub a b) ?_ (fun s1 h2 => ?_)
  · rw [own_eq _ _ _ _ h1]
    exact c_falls v h1 hk (by omega) (by omega) (by omega)
  · rw [own_eq _ _ _ _ h2]
    exact c_lands (nI 1) h2 hk (by omega) (by omega) (by omega)
theorem cr_2 {s : SS} {sb : Int32} {kd dep n : Nat} {t : TS} (v : Int32) (h : PA s sb kd t) (hk : kd ≤ 7) (ht : t.2 + 16 < 24) (hd : dep + 16 ≤ 40) : AO (g_X0R (n + 18) 0 (nI 2) (nI 3) v (nI dep) s) s sb kd (plR kd sb v t) := by
  rw [pf_2_3 v h.1 (by omega) (by omega), rn_2]
  refine AO_psh (c := 2) h (fun h1 => ?_)
  have e := fal_n kd sb v (pu t 2)
  have e0 : (pu t 2).2 = t.2 + 1 := rfl
  refine AO_seq (r := falF kd sb v (pu t 2)) (r2 := lanF kd sb (nI 1) (falF kd sb v (pu t 2)).2) (fun a b => aSub a b) ?_ (fun s1 h2 => ?_)
  · rw [own_eq _ _ _ _ h1]
    exact c_falls v h1 hk (by omega) (by omega) (by omega)
  · rw [own_eq _ _ _ _ h2]
    exact c_lands (nI 1) h2 hk (by omega) (by omega) (by omega)
theorem cr_3 {s : SS} {sb : Int32} {kd dep n : Nat} {t : TS} (v : Int32) (h : PA s sb kd t) (hk : kd ≤ 7) (ht : t.2 + 16 < 24) (hd : dep + 16 ≤ 40) : AO (g_X0R (n + 18) 0 (nI 3) (nI 3) v (nI dep) s) s sb kd (plR kd sb v t) := by
  rw [pf_3_3 v h.1 (by omega) (by omega), rn_2]
  refine AO_psh (c := 2) h (fun h1 => ?_)
  have e := fal_n kd sb v (pu t 2)
  have e0 : (pu t 2).2 = t.2 + 1 := rfl
  refine AO_seq (r := falF kd sb v (pu t 2)) (r2 := lanF kd sb (nI 1) (falF kd sb v (pu t 2)).2) (fun a b => aSub a b) ?_ (fun s1 h2 => ?_)
  · rw [own_eq _ _ _ _ h1]
    exact c_falls v h1 hk (by omega) (by omega) (by omega)
  · rw [own_eq _ _ _ _ h2]
    exact c_lands (nI 1) h2 hk (by omega) (by omega) (by omega)
theorem cr_6 {s : SS} {sb : Int32} {kd dep n : Nat} {t : TS} (v : Int32) (h : PA s sb kd t) (hk : kd ≤ 7) (ht : t.2 + 16 < 24) (hd : dep + 16 ≤ 40) : AO (g_X0R (n + 18) 0 (nI 6) (nI 3) v (nI dep) s) s sb kd (plR kd sb v t) := by
  rw [pf_6_3 v h.1 (by omega) (by omega), rn_2]
  refine AO_psh (c := 2) h (fun h1 => ?_)
  have e := fal_n kd sb v (pu t 2)
  have e0 : (pu t 2).2 = t.2 + 1 := rfl
  refine AO_seq (r := falF kd sb v (pu t 2)) (r2 := lanF kd sb (nI 1) (falF kd sb v (pu t 2)).2) (fun a b => aSub a b) ?_ (fun s1 h2 => ?_)
  · rw [own_eq _ _ _ _ h1]
    exact c_falls v h1 hk (by omega) (by omega) (by omega)
  · rw [own_eq _ _ _ _ h2]
    exact c_lands (nI 1) h2 hk (by omega) (by omega) (by omega)
theorem cr_7 {s : SS} {sb : Int32} {kd dep n : Nat} {t : TS} (v : Int32) (h : PA s sb kd t) (hk : kd ≤ 7) (ht : t.2 + 16 < 24) (hd : dep + 16 ≤ 40) : AO (g_X0R (n + 18) 0 (nI 7) (nI 3) v (nI dep) s) s sb kd (plR kd sb v t) := by
  rw [pf_7_3 v h.1 (by omega) (by omega), rn_2]
  refine AO_psh (c := 2) h (fun h1 => ?_)
  have e := fal_n kd sb v (pu t 2)
  have e0 : (pu t 2).2 = t.2 + 1 := rfl
  refine AO_seq (r := falF kd sb v (pu t 2)) (r2 := lanF kd sb (nI 1) (falF kd sb v (pu t 2)).2) (fun a b => aSub a b) ?_ (fun s1 h2 => ?_)
  · rw [own_eq _ _ _ _ h1]
    exact c_falls v h1 hk (by omega) (by omega) (by omega)
  · rw [own_eq _ _ _ _ h2]
    exact c_lands (nI 1) h2 hk (by omega) (by omega) (by omega)
theorem cr_4 {s : SS} {sb : Int32} {kd dep n : Nat} {t : TS} (v : Int32) (h : PA s sb kd t) (hk : kd = 4) (ht : t.2 + 17 < 24) (hd : dep + 17 ≤ 40) : AO (g_X0R (n + 20) 0 (nI 4) (nI 3) v (nI dep) s) s sb kd (raR 4 sb v t) := by
  subst hk
  rw [pf_4_3 v h.1 (by omega) (by omega), rn_50]
  refine AO_psh (c := 50) h (fun h1 => ?_)
  exact AO_map (fun z => aXor z (nI 5)) (r := plR 4 sb v (pu t 50)) (cr_1 v h1 (by omega) (by show t.2 + 1 + 16 < 24; omega) (by omega))
theorem cr_5 {s : SS} {sb : Int32} {kd dep n : Nat} {t : TS} (v : Int32) (h : PA s sb kd t) (hk : kd = 5) (ht : t.2 + 17 < 24) (hd : dep + 17 ≤ 40) : AO (g_X0R (n + 20) 0 (nI 5) (nI 3) v (nI dep) s) s sb kd (raR 5 sb v t) := by
  subst hk
  rw [pf_5_3 v h.1 (by omega) (by omega), rn_61]
  refine AO_psh (c := 61) h (fun h1 => ?_)
  exact AO_map (fun z => aAdd z (nI 1)) (r := plR 5 sb v (pu t 61)) (cr_3 v h1 (by omega) (by show t.2 + 1 + 16 < 24; omega) (by omega))
theorem c_ranks {s : SS} {sb : Int32} {kd dep n : Nat} {t : TS} (v : Int32) (h : PA s sb kd t) (hk : kd ≤ 7) (hn : 20 ≤ n) (ht : t.2 + 17 < 24) (hd : dep + 17 ≤ 40) : AO (g_X0R n 0 (nI kd) (nI 3) v (nI dep) s) s sb kd (raR kd sb v t) := by
  obtain ⟨n, rfl⟩ : ∃ n', n = n' + 20 := ⟨n - 20, by omega⟩
  match kd, hk with
  | 0, _ => exact cr_0 v h (by omega) (by omega) (by omega)
  | 1, _ => exact cr_1 v h (by omega) (by omega) (by omega)
  | 2, _ => exact cr_2 v h (by omega) (by omega) (by omega)
  | 3, _ => exact cr_3 v h (by omega) (by omega) (by omega)
  | 4, _ => exact cr_4 v h rfl (by omega) (by omega)
  | 5, _ => exact cr_5 v h rfl (by omega) (by omega)
  | 6, _ => exact cr_6 v h (by omega) (by omega) (by omega)
  | 7, _ => exact cr_7 v h (by omega) (by omega) (by omega)
