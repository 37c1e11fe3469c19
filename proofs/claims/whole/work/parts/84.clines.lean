/-! the class reads: lines -/
theorem c_ops {d tl : Nat} {tp : Nat → Nat} (hd : d = 13 ∨ d = 20) (ht : tl ≤ 120) (hp : ∀ k, tp k ≤ 255) : ∀ r o n, r + o = 6 → 1 + 8 * r ≤ n → CI d tl tp (g_X8R n 1 (nI o) (nI 0)) (ops (tkF tl tp) r) := by
  intro r
  induction r with
  | zero =>
    intro o n e hn
    obtain ⟨n, rfl⟩ : ∃ n', n = n' + 1 := ⟨n - 1, by omega⟩
    exact c_opS hd ht hp (by omega) (fun _ => by omega) (fun Y h => by cases h)
  | succ r ih =>
    intro o n e hn
    obtain ⟨n, rfl⟩ : ∃ n', n = n' + 2 := ⟨n - 2, by omega⟩
    refine c_opS (n := n + 1) hd ht hp (by omega) (fun h => by cases h) (fun Y h => ?_)
    cases h
    refine ⟨by omega, rfl, n, rfl, ?_, ih (o + 1) n (by omega) (by omega)⟩
    have := c_joined2 (X := ops (tkF tl tp) r) (o := o + 1) (n0 := 1 + 8 * r) hd ht hp (fun m hm => ih (o + 1) m (by omega) hm) 5 (by omega) n (by omega)
    exact this
noncomputable def exS (tk : Nat → Nat) : Nat → Rs := eiS tk (ops tk 6)
theorem c_exS {d tl : Nat} {tp : Nat → Nat} (hd : d = 13 ∨ d = 20) (ht : tl ≤ 120) (hp : ∀ k, tp k ≤ 255) : CI d tl tp (g_X8R fuelR 0 (nI 0) (nI 0)) (exS (tkF tl tp)) := by
  have := c_joined2 (X := ops (tkF tl tp) 6) (o := 0) (n0 := 49) hd ht hp (fun m hm => c_ops hd ht hp 6 0 m (by omega) (by omega)) 5 (by omega) fuelR (by rw [fuelR_eq]; omega)
  exact this
abbrev Ln : Type := Option Dn × Dn
def evF : List Ln → Dn
  | [], _ => nI 0
  | (none, e) :: _, v => e v
  | (some c, e) :: t, v => if c v = nI 0 then evF t v else e v
def LN (s : SS) (d N : Nat) (D : Nat → Dn) (l : List Ln) : Prop := s.1 d 7 = nI l.length ∧ ∀ j (hj : j < l.length), (∃ y, y < N ∧ s.1 (d + 6) j = nI y ∧ D y = (l[j]).2) ∧ ((l[j]).1 = none → s.1 (d + 5) j = mI 1) ∧ (∀ c, (l[j]).1 = some c → ∃ x, x < N ∧ s.1 (d + 5) j = nI x ∧ D x = c)
/-- ok, the line, where it ends -/
noncomputable def lnS (tk : Nat → Nat) (h : Nat) : Bool × Ln × Nat := if (exS tk h).1 = true ∧ tk (exS tk h).2.2.2 = 63 then ((exS tk ((exS tk h).2.2.2 + 1)).1, (some (exS tk h).2.2.1, (exS tk ((exS tk h).2.2.2 + 1)).2.2.1), (exS tk ((exS tk h).2.2.2 + 1)).2.2.2) else ((exS tk h).1, (none, (exS tk h).2.2.1), (exS tk h).2.2.2)
theorem LN_fr {s s' : SS} {d N N' : Nat} {D D' : Nat → Dn} {l : List Ln} (x : LN s d N D l) (h7 : s'.1 d 7 = s.1 d 7) (h5 : s'.1 (d + 5) = s.1 (d + 5)) (h6 : s'.1 (d + 6) = s.1 (d + 6)) (hN : N ≤ N') (hD : ∀ k, k < N → D' k = D k) : LN s' d N' D' l := by
  refine ⟨by rw [h7]; exact x.1, fun j hj => ?_⟩
  obtain ⟨⟨y, y1, y2, y3⟩, a, b⟩ := x.2 j hj
  refine ⟨⟨y, by omega, by rw [h6]; exact y2, by rw [hD y y1]; exact y3⟩, fun e => by rw [h5]; exact a e, fun c e => ?_⟩
  obtain ⟨z, z1, z2, z3⟩ := b c e
  exact ⟨z, by omega, by rw [h5]; exact z2, by rw [hD z z1]; exact z3⟩
theorem c_addLine {s : SS} {d tl : Nat} {tp : Nat → Nat} {N : Nat} {D : Nat → Dn} {h : Nat} {l : List Ln} (hd : d = 13 ∨ d = 20) (x : DS s d tl tp N D h) (y : LN s d N D l) (hl : l.length < 120) (c r : Int32) (z : Ln) (hr : ∃ y, y < N ∧ r = nI y ∧ D y = z.2) (hc0 : z.1 = none → c = mI 1) (hc1 : ∀ e, z.1 = some e → ∃ x, x < N ∧ c = nI x ∧ D x = e) : ∃ s', f_X3_addLine d c r s = some s' ∧ DS s' d tl tp N D h ∧ LN s' d N D (l ++ [z]) ∧ (∀ c, c ≠ d → c ≠ d + 5 → c ≠ d + 6 → s'.1 c = s.1 c) ∧ s'.2 = s.2 := by
  obtain ⟨x1, x2, x3, x4, x5, x6, x7, x8, x9⟩ := x
  obtain ⟨y1, y2⟩ := y
  refine ⟨pI (pI (pI s (d + 5) l.length c) (d + 6) l.length r) d 7 (nI (l.length + 1)), ?_, ⟨x1, by simp (disch := omega) only [↓reduceIte, li_0, li_1, li_2, li_3, li_4, li_5, li_6, li_7, li_8, li_9, li_10, li_11, li_12, li_13, li_14, li_15, li_16, li_17, li_18, li_19, li_20, li_21, li_22, li_23, li_24, li_25, li_26, li_27, li_28, li_29, li_30, li_31, li_32, li_33, li_34, li_35, li_36, li_37, li_38, li_39, li_40, li_41, li_42, li_43, li_44, li_45, li_46, li_47, li_48, li_49, li_50, li_51, li_52, li_53, li_54, li_55, li_56, li_57, li_58, li_59, li_60, li_61, li_62, li_63, li_70, li_80, li_81, li_95, li_98, li_99, li_100, li_101, li_102, li_103, li_104, li_105, li_106, li_107, li_108, li_109, li_110, li_111, li_112, li_120, li_122, li_124, li_126, li_130, li_168, li_175, li_200, li_255, li_260, li_360, li_1440, li_12345, li_1000000, li_1103515245, neg_nI, nltT, nltF, neqT, neqF, mlt_n, nlt_m, meq_n, neq_m, meq_mT, meq_mF, mlt_mT, mlt_mF, nI_cl, gd_in, gd_T, Option.bind_some, pI_ne, pI_eq, pI_2, pL_1, pL_ne, pL_eq, pL_22, upEq, upN, aN_at, aN_up, nU_e, nU_n, aAdd_n, aAdd_nm, aSub_p, aSub_n, aSub_mn, aSub_mm, aMul_n, aDiv_n, aRem_n, eq_self_iff_true, x2], by simp (disch := omega) only [↓reduceIte, li_0, li_1, li_2, li_3, li_4, li_5, li_6, li_7, li_8, li_9, li_10, li_11, li_12, li_13, li_14, li_15, li_16, li_17, li_18, li_19, li_20, li_21, li_22, li_23, li_24, li_25, li_26, li_27, li_28, li_29, li_30, li_31, li_32, li_33, li_34, li_35, li_36, li_37, li_38, li_39, li_40, li_41, li_42, li_43, li_44, li_45, li_46, li_47, li_48, li_49, li_50, li_51, li_52, li_53, li_54, li_55, li_56, li_57, li_58, li_59, li_60, li_61, li_62, li_63, li_70, li_80, li_81, li_95, li_98, li_99, li_100, li_101, li_102, li_103, li_104, li_105, li_106, li_107, li_108, li_109, li_110, li_111, li_112, li_120, li_122, li_124, li_126, li_130, li_168, li_175, li_200, li_255, li_260, li_360, li_1440, li_12345, li_1000000, li_1103515245, neg_nI, nltT, nltF, neqT, neqF, mlt_n, nlt_m, meq_n, neq_m, meq_mT, meq_mF, mlt_mT, mlt_mF, nI_cl, gd_in, gd_T, Option.bind_some, pI_ne, pI_eq, pI_2, pL_1, pL_ne, pL_eq, pL_22, upEq, upN, aN_at, aN_up, nU_e, nU_n, aAdd_n, aAdd_nm, aSub_p, aSub_n, aSub_mn, aSub_mm, aMul_n, aDiv_n, aRem_n, eq_self_iff_true, x3], by simp (disch := omega) only [↓reduceIte, li_0, li_1, li_2, li_3, li_4, li_5, li_6, li_7, li_8, li_9, li_10, li_11, li_12, li_13, li_14, li_15, li_16, li_17, li_18, li_19, li_20, li_21, li_22, li_23, li_24, li_25, li_26, li_27, li_28, li_29, li_30, li_31, li_32, li_33, li_34, li_35, li_36, li_37, li_38, li_39, li_40, li_41, li_42, li_43, li_44, li_45, li_46, li_47, li_48, li_49, li_50, li_51, li_52, li_53, li_54, li_55, li_56, li_57, li_58, li_59, li_60, li_61, li_62, li_63, li_70, li_80, li_81, li_95, li_98, li_99, li_100, li_101, li_102, li_103, li_104, li_105, li_106, li_107, li_108, li_109, li_110, li_111, li_112, li_120, li_122, li_124, li_126, li_130, li_168, li_175, li_200, li_255, li_260, li_360, li_1440, li_12345, li_1000000, li_1103515245, neg_nI, nltT, nltF, neqT, neqF, mlt_n, nlt_m, meq_n, neq_m, meq_mT, meq_mF, mlt_mT, mlt_mF, nI_cl, gd_in, gd_T, Option.bind_some, pI_ne, pI_eq, pI_2, pL_1, pL_ne, pL_eq, pL_22, upEq, upN, aN_at, aN_up, nU_e, nU_n, aAdd_n, aAdd_nm, aSub_p, aSub_n, aSub_mn, aSub_mm, aMul_n, aDiv_n, aRem_n, eq_self_iff_true, x4], by simp (disch := omega) only [↓reduceIte, li_0, li_1, li_2, li_3, li_4, li_5, li_6, li_7, li_8, li_9, li_10, li_11, li_12, li_13, li_14, li_15, li_16, li_17, li_18, li_19, li_20, li_21, li_22, li_23, li_24, li_25, li_26, li_27, li_28, li_29, li_30, li_31, li_32, li_33, li_34, li_35, li_36, li_37, li_38, li_39, li_40, li_41, li_42, li_43, li_44, li_45, li_46, li_47, li_48, li_49, li_50, li_51, li_52, li_53, li_54, li_55, li_56, li_57, li_58, li_59, li_60, li_61, li_62, li_63, li_70, li_80, li_81, li_95, li_98, li_99, li_100, li_101, li_102, li_103, li_104, li_105, li_106, li_107, li_108, li_109, li_110, li_111, li_112, li_120, li_122, li_124, li_126, li_130, li_168, li_175, li_200, li_255, li_260, li_360, li_1440, li_12345, li_1000000, li_1103515245, neg_nI, nltT, nltF, neqT, neqF, mlt_n, nlt_m, meq_n, neq_m, meq_mT, meq_mF, mlt_mT, mlt_mF, nI_cl, gd_in, gd_T, Option.bind_some, pI_ne, pI_eq, pI_2, pL_1, pL_ne, pL_eq, pL_22, upEq, upN, aN_at, aN_up, nU_e, nU_n, aAdd_n, aAdd_nm, aSub_p, aSub_n, aSub_mn, aSub_mm, aMul_n, aDiv_n, aRem_n, eq_self_iff_true, x5], x6, x7, x8, x9.1, fun k a b => ?_⟩, ⟨?_, fun j hj => ?_⟩, fun c p q t => by simp (disch := omega) only [↓reduceIte, li_0, li_1, li_2, li_3, li_4, li_5, li_6, li_7, li_8, li_9, li_10, li_11, li_12, li_13, li_14, li_15, li_16, li_17, li_18, li_19, li_20, li_21, li_22, li_23, li_24, li_25, li_26, li_27, li_28, li_29, li_30, li_31, li_32, li_33, li_34, li_35, li_36, li_37, li_38, li_39, li_40, li_41, li_42, li_43, li_44, li_45, li_46, li_47, li_48, li_49, li_50, li_51, li_52, li_53, li_54, li_55, li_56, li_57, li_58, li_59, li_60, li_61, li_62, li_63, li_70, li_80, li_81, li_95, li_98, li_99, li_100, li_101, li_102, li_103, li_104, li_105, li_106, li_107, li_108, li_109, li_110, li_111, li_112, li_120, li_122, li_124, li_126, li_130, li_168, li_175, li_200, li_255, li_260, li_360, li_1440, li_12345, li_1000000, li_1103515245, neg_nI, nltT, nltF, neqT, neqF, mlt_n, nlt_m, meq_n, neq_m, meq_mT, meq_mF, mlt_mT, mlt_mF, nI_cl, gd_in, gd_T, Option.bind_some, pI_ne, pI_eq, pI_2, pL_1, pL_ne, pL_eq, pL_22, upEq, upN, aN_at, aN_up, nU_e, nU_n, aAdd_n, aAdd_nm, aSub_p, aSub_n, aSub_mn, aSub_mm, aMul_n, aDiv_n, aRem_n, eq_self_iff_true], rfl⟩
  · simp (disch := omega) only [↓reduceIte, li_0, li_1, li_2, li_3, li_4, li_5, li_6, li_7, li_8, li_9, li_10, li_11, li_12, li_13, li_14, li_15, li_16, li_17, li_18, li_19, li_20, li_21, li_22, li_23, li_24, li_25, li_26, li_27, li_28, li_29, li_30, li_31, li_32, li_33, li_34, li_35, li_36, li_37, li_38, li_39, li_40, li_41, li_42, li_43, li_44, li_45, li_46, li_47, li_48, li_49, li_50, li_51, li_52, li_53, li_54, li_55, li_56, li_57, li_58, li_59, li_60, li_61, li_62, li_63, li_70, li_80, li_81, li_95, li_98, li_99, li_100, li_101, li_102, li_103, li_104, li_105, li_106, li_107, li_108, li_109, li_110, li_111, li_112, li_120, li_122, li_124, li_126, li_130, li_168, li_175, li_200, li_255, li_260, li_360, li_1440, li_12345, li_1000000, li_1103515245, neg_nI, nltT, nltF, neqT, neqF, mlt_n, nlt_m, meq_n, neq_m, meq_mT, meq_mF, mlt_mT, mlt_mF, nI_cl, gd_in, gd_T, Option.bind_some, pI_ne, pI_eq, pI_2, pL_1, pL_ne, pL_eq, pL_22, upEq, upN, aN_at, aN_up, nU_e, nU_n, aAdd_n, aAdd_nm, aSub_p, aSub_n, aSub_mn, aSub_mm, aMul_n, aDiv_n, aRem_n, eq_self_iff_true, f_X3_addLine, y1]
  · simp (disch := omega) only [↓reduceIte, li_0, li_1, li_2, li_3, li_4, li_5, li_6, li_7, li_8, li_9, li_10, li_11, li_12, li_13, li_14, li_15, li_16, li_17, li_18, li_19, li_20, li_21, li_22, li_23, li_24, li_25, li_26, li_27, li_28, li_29, li_30, li_31, li_32, li_33, li_34, li_35, li_36, li_37, li_38, li_39, li_40, li_41, li_42, li_43, li_44, li_45, li_46, li_47, li_48, li_49, li_50, li_51, li_52, li_53, li_54, li_55, li_56, li_57, li_58, li_59, li_60, li_61, li_62, li_63, li_70, li_80, li_81, li_95, li_98, li_99, li_100, li_101, li_102, li_103, li_104, li_105, li_106, li_107, li_108, li_109, li_110, li_111, li_112, li_120, li_122, li_124, li_126, li_130, li_168, li_175, li_200, li_255, li_260, li_360, li_1440, li_12345, li_1000000, li_1103515245, neg_nI, nltT, nltF, neqT, neqF, mlt_n, nlt_m, meq_n, neq_m, meq_mT, meq_mF, mlt_mT, mlt_mF, nI_cl, gd_in, gd_T, Option.bind_some, pI_ne, pI_eq, pI_2, pL_1, pL_ne, pL_eq, pL_22, upEq, upN, aN_at, aN_up, nU_e, nU_n, aAdd_n, aAdd_nm, aSub_p, aSub_n, aSub_mn, aSub_mm, aMul_n, aDiv_n, aRem_n, eq_self_iff_true]
    exact x9.2 k a b
  · rw [List.length_append]
    simp (disch := omega) only [↓reduceIte, li_0, li_1, li_2, li_3, li_4, li_5, li_6, li_7, li_8, li_9, li_10, li_11, li_12, li_13, li_14, li_15, li_16, li_17, li_18, li_19, li_20, li_21, li_22, li_23, li_24, li_25, li_26, li_27, li_28, li_29, li_30, li_31, li_32, li_33, li_34, li_35, li_36, li_37, li_38, li_39, li_40, li_41, li_42, li_43, li_44, li_45, li_46, li_47, li_48, li_49, li_50, li_51, li_52, li_53, li_54, li_55, li_56, li_57, li_58, li_59, li_60, li_61, li_62, li_63, li_70, li_80, li_81, li_95, li_98, li_99, li_100, li_101, li_102, li_103, li_104, li_105, li_106, li_107, li_108, li_109, li_110, li_111, li_112, li_120, li_122, li_124, li_126, li_130, li_168, li_175, li_200, li_255, li_260, li_360, li_1440, li_12345, li_1000000, li_1103515245, neg_nI, nltT, nltF, neqT, neqF, mlt_n, nlt_m, meq_n, neq_m, meq_mT, meq_mF, mlt_mT, mlt_mF, nI_cl, gd_in, gd_T, Option.bind_some, pI_ne, pI_eq, pI_2, pL_1, pL_ne, pL_eq, pL_22, upEq, upN, aN_at, aN_up, nU_e, nU_n, aAdd_n, aAdd_nm, aSub_p, aSub_n, aSub_mn, aSub_mm, aMul_n, aDiv_n, aRem_n, eq_self_iff_true]
    rfl
  · rw [List.length_append] at hj
    have hj : j < l.length + 1 := hj
    by_cases e : j < l.length
    · rw [List.getElem_append_left e]
      obtain ⟨⟨w, w1, w2, w3⟩, a, b⟩ := y2 j e
      refine ⟨⟨w, w1, by simp (disch := omega) only [↓reduceIte, li_0, li_1, li_2, li_3, li_4, li_5, li_6, li_7, li_8, li_9, li_10, li_11, li_12, li_13, li_14, li_15, li_16, li_17, li_18, li_19, li_20, li_21, li_22, li_23, li_24, li_25, li_26, li_27, li_28, li_29, li_30, li_31, li_32, li_33, li_34, li_35, li_36, li_37, li_38, li_39, li_40, li_41, li_42, li_43, li_44, li_45, li_46, li_47, li_48, li_49, li_50, li_51, li_52, li_53, li_54, li_55, li_56, li_57, li_58, li_59, li_60, li_61, li_62, li_63, li_70, li_80, li_81, li_95, li_98, li_99, li_100, li_101, li_102, li_103, li_104, li_105, li_106, li_107, li_108, li_109, li_110, li_111, li_112, li_120, li_122, li_124, li_126, li_130, li_168, li_175, li_200, li_255, li_260, li_360, li_1440, li_12345, li_1000000, li_1103515245, neg_nI, nltT, nltF, neqT, neqF, mlt_n, nlt_m, meq_n, neq_m, meq_mT, meq_mF, mlt_mT, mlt_mF, nI_cl, gd_in, gd_T, Option.bind_some, pI_ne, pI_eq, pI_2, pL_1, pL_ne, pL_eq, pL_22, upEq, upN, aN_at, aN_up, nU_e, nU_n, aAdd_n, aAdd_nm, aSub_p, aSub_n, aSub_mn, aSub_mm, aMul_n, aDiv_n, aRem_n, eq_self_iff_true, w2], w3⟩, fun q => by simp (disch := omega) only [↓reduceIte, li_0, li_1, li_2, li_3, li_4, li_5, li_6, li_7, li_8, li_9, li_10, li_11, li_12, li_13, li_14, li_15, li_16, li_17, li_18, li_19, li_20, li_21, li_22, li_23, li_24, li_25, li_26, li_27, li_28, li_29, li_30, li_31, li_32, li_33, li_34, li_35, li_36, li_37, li_38, li_39, li_40, li_41, li_42, li_43, li_44, li_45, li_46, li_47, li_48, li_49, li_50, li_51, li_52, li_53, li_54, li_55, li_56, li_57, li_58, li_59, li_60, li_61, li_62, li_63, li_70, li_80, li_81, li_95, li_98, li_99, li_100, li_101, li_102, li_103, li_104, li_105, li_106, li_107, li_108, li_109, li_110, li_111, li_112, li_120, li_122, li_124, li_126, li_130, li_168, li_175, li_200, li_255, li_260, li_360, li_1440, li_12345, li_1000000, li_1103515245, neg_nI, nltT, nltF, neqT, neqF, mlt_n, nlt_m, meq_n, neq_m, meq_mT, meq_mF, mlt_mT, mlt_mF, nI_cl, gd_in, gd_T, Option.bind_some, pI_ne, pI_eq, pI_2, pL_1, pL_ne, pL_eq, pL_22, upEq, upN, aN_at, aN_up, nU_e, nU_n, aAdd_n, aAdd_nm, aSub_p, aSub_n, aSub_mn, aSub_mm, aMul_n, aDiv_n, aRem_n, eq_self_iff_true, a q], fun q p => ?_⟩
      obtain ⟨u, u1, u2, u3⟩ := b q p
      exact ⟨u, u1, by simp (disch := omega) only [↓reduceIte, li_0, li_1, li_2, li_3, li_4, li_5, li_6, li_7, li_8, li_9, li_10, li_11, li_12, li_13, li_14, li_15, li_16, li_17, li_18, li_19, li_20, li_21, li_22, li_23, li_24, li_25, li_26, li_27, li_28, li_29, li_30, li_31, li_32, li_33, li_34, li_35, li_36, li_37, li_38, li_39, li_40, li_41, li_42, li_43, li_44, li_45, li_46, li_47, li_48, li_49, li_50, li_51, li_52, li_53, li_54, li_55, li_56, li_57, li_58, li_59, li_60, li_61, li_62, li_63, li_70, li_80, li_81, li_95, li_98, li_99, li_100, li_101, li_102, li_103, li_104, li_105, li_106, li_107, li_108, li_109, li_110, li_111, li_112, li_120, li_122, li_124, li_126, li_130, li_168, li_175, li_200, li_255, li_260, li_360, li_1440, li_12345, li_1000000, li_1103515245, neg_nI, nltT, nltF, neqT, neqF, mlt_n, nlt_m, meq_n, neq_m, meq_mT, meq_mF, mlt_mT, mlt_mF, nI_cl, gd_in, gd_T, Option.bind_some, pI_ne, pI_eq, pI_2, pL_1, pL_ne, pL_eq, pL_22, upEq, upN, aN_at, aN_up, nU_e, nU_n, aAdd_n, aAdd_nm, aSub_p, aSub_n, aSub_mn, aSub_mm, aMul_n, aDiv_n, aRem_n, eq_self_iff_true, u2], u3⟩
    · have e : j = l.length := by omega
      subst e
      rw [List.getElem_append_right (by omega)]
      simp only [Nat.sub_self, List.getElem_cons_zero]
      refine ⟨?_, fun q => ?_, fun q p => ?_⟩
      · obtain ⟨w, w1, w2, w3⟩ := hr
        exact ⟨w, w1, by simp (disch := omega) only [↓reduceIte, li_0, li_1, li_2, li_3, li_4, li_5, li_6, li_7, li_8, li_9, li_10, li_11, li_12, li_13, li_14, li_15, li_16, li_17, li_18, li_19, li_20, li_21, li_22, li_23, li_24, li_25, li_26, li_27, li_28, li_29, li_30, li_31, li_32, li_33, li_34, li_35, li_36, li_37, li_38, li_39, li_40, li_41, li_42, li_43, li_44, li_45, li_46, li_47, li_48, li_49, li_50, li_51, li_52, li_53, li_54, li_55, li_56, li_57, li_58, li_59, li_60, li_61, li_62, li_63, li_70, li_80, li_81, li_95, li_98, li_99, li_100, li_101, li_102, li_103, li_104, li_105, li_106, li_107, li_108, li_109, li_110, li_111, li_112, li_120, li_122, li_124, li_126, li_130, li_168, li_175, li_200, li_255, li_260, li_360, li_1440, li_12345, li_1000000, li_1103515245, neg_nI, nltT, nltF, neqT, neqF, mlt_n, nlt_m, meq_n, neq_m, meq_mT, meq_mF, mlt_mT, mlt_mF, nI_cl, gd_in, gd_T, Option.bind_some, pI_ne, pI_eq, pI_2, pL_1, pL_ne, pL_eq, pL_22, upEq, upN, aN_at, aN_up, nU_e, nU_n, aAdd_n, aAdd_nm, aSub_p, aSub_n, aSub_mn, aSub_mm, aMul_n, aDiv_n, aRem_n, eq_self_iff_true, w2], w3⟩
      · simp (disch := omega) only [↓reduceIte, li_0, li_1, li_2, li_3, li_4, li_5, li_6, li_7, li_8, li_9, li_10, li_11, li_12, li_13, li_14, li_15, li_16, li_17, li_18, li_19, li_20, li_21, li_22, li_23, li_24, li_25, li_26, li_27, li_28, li_29, li_30, li_31, li_32, li_33, li_34, li_35, li_36, li_37, li_38, li_39, li_40, li_41, li_42, li_43, li_44, li_45, li_46, li_47, li_48, li_49, li_50, li_51, li_52, li_53, li_54, li_55, li_56, li_57, li_58, li_59, li_60, li_61, li_62, li_63, li_70, li_80, li_81, li_95, li_98, li_99, li_100, li_101, li_102, li_103, li_104, li_105, li_106, li_107, li_108, li_109, li_110, li_111, li_112, li_120, li_122, li_124, li_126, li_130, li_168, li_175, li_200, li_255, li_260, li_360, li_1440, li_12345, li_1000000, li_1103515245, neg_nI, nltT, nltF, neqT, neqF, mlt_n, nlt_m, meq_n, neq_m, meq_mT, meq_mF, mlt_mT, mlt_mF, nI_cl, gd_in, gd_T, Option.bind_some, pI_ne, pI_eq, pI_2, pL_1, pL_ne, pL_eq, pL_22, upEq, upN, aN_at, aN_up, nU_e, nU_n, aAdd_n, aAdd_nm, aSub_p, aSub_n, aSub_mn, aSub_mm, aMul_n, aDiv_n, aRem_n, eq_self_iff_true]
        exact hc0 q
      · obtain ⟨u, u1, u2, u3⟩ := hc1 q p
        exact ⟨u, u1, by simp (disch := omega) only [↓reduceIte, li_0, li_1, li_2, li_3, li_4, li_5, li_6, li_7, li_8, li_9, li_10, li_11, li_12, li_13, li_14, li_15, li_16, li_17, li_18, li_19, li_20, li_21, li_22, li_23, li_24, li_25, li_26, li_27, li_28, li_29, li_30, li_31, li_32, li_33, li_34, li_35, li_36, li_37, li_38, li_39, li_40, li_41, li_42, li_43, li_44, li_45, li_46, li_47, li_48, li_49, li_50, li_51, li_52, li_53, li_54, li_55, li_56, li_57, li_58, li_59, li_60, li_61, li_62, li_63, li_70, li_80, li_81, li_95, li_98, li_99, li_100, li_101, li_102, li_103, li_104, li_105, li_106, li_107, li_108, li_109, li_110, li_111, li_112, li_120, li_122, li_124, li_126, li_130, li_168, li_175, li_200, li_255, li_260, li_360, li_1440, li_12345, li_1000000, li_1103515245, neg_nI, nltT, nltF, neqT, neqF, mlt_n, nlt_m, meq_n, neq_m, meq_mT, meq_mF, mlt_mT, mlt_mF, nI_cl, gd_in, gd_T, Option.bind_some, pI_ne, pI_eq, pI_2, pL_1, pL_ne, pL_eq, pL_22, upEq, upN, aN_at, aN_up, nU_e, nU_n, aAdd_n, aAdd_nm, aSub_p, aSub_n, aSub_mn, aSub_mm, aMul_n, aDiv_n, aRem_n, eq_self_iff_true, u2], u3⟩
theorem c_addLine0 (s : SS) (d k : Nat) (c r : Int32) (h : s.1 d 7 = nI k) (hk : k ≤ 120) : ∃ s', f_X3_addLine d c r s = some s' ∧ (∀ c, c ≠ d → c ≠ d + 5 → c ≠ d + 6 → s'.1 c = s.1 c) ∧ s'.2 = s.2 := by
  unfold f_X3_addLine
  by_cases e : k < 120
  · simp (disch := omega) only [↓reduceIte, li_0, li_1, li_2, li_3, li_4, li_5, li_6, li_7, li_8, li_9, li_10, li_11, li_12, li_13, li_14, li_15, li_16, li_17, li_18, li_19, li_20, li_21, li_22, li_23, li_24, li_25, li_26, li_27, li_28, li_29, li_30, li_31, li_32, li_33, li_34, li_35, li_36, li_37, li_38, li_39, li_40, li_41, li_42, li_43, li_44, li_45, li_46, li_47, li_48, li_49, li_50, li_51, li_52, li_53, li_54, li_55, li_56, li_57, li_58, li_59, li_60, li_61, li_62, li_63, li_70, li_80, li_81, li_95, li_98, li_99, li_100, li_101, li_102, li_103, li_104, li_105, li_106, li_107, li_108, li_109, li_110, li_111, li_112, li_120, li_122, li_124, li_126, li_130, li_168, li_175, li_200, li_255, li_260, li_360, li_1440, li_12345, li_1000000, li_1103515245, neg_nI, nltT, nltF, neqT, neqF, mlt_n, nlt_m, meq_n, neq_m, meq_mT, meq_mF, mlt_mT, mlt_mF, nI_cl, gd_in, gd_T, Option.bind_some, pI_ne, pI_eq, pI_2, pL_1, pL_ne, pL_eq, pL_22, upEq, upN, aN_at, aN_up, nU_e, nU_n, aAdd_n, aAdd_nm, aSub_p, aSub_n, aSub_mn, aSub_mm, aMul_n, aDiv_n, aRem_n, eq_self_iff_true, h]
    exact ⟨_, rfl, fun c p q t => by simp (disch := omega) only [↓reduceIte, li_0, li_1, li_2, li_3, li_4, li_5, li_6, li_7, li_8, li_9, li_10, li_11, li_12, li_13, li_14, li_15, li_16, li_17, li_18, li_19, li_20, li_21, li_22, li_23, li_24, li_25, li_26, li_27, li_28, li_29, li_30, li_31, li_32, li_33, li_34, li_35, li_36, li_37, li_38, li_39, li_40, li_41, li_42, li_43, li_44, li_45, li_46, li_47, li_48, li_49, li_50, li_51, li_52, li_53, li_54, li_55, li_56, li_57, li_58, li_59, li_60, li_61, li_62, li_63, li_70, li_80, li_81, li_95, li_98, li_99, li_100, li_101, li_102, li_103, li_104, li_105, li_106, li_107, li_108, li_109, li_110, li_111, li_112, li_120, li_122, li_124, li_126, li_130, li_168, li_175, li_200, li_255, li_260, li_360, li_1440, li_12345, li_1000000, li_1103515245, neg_nI, nltT, nltF, neqT, neqF, mlt_n, nlt_m, meq_n, neq_m, meq_mT, meq_mF, mlt_mT, mlt_mF, nI_cl, gd_in, gd_T, Option.bind_some, pI_ne, pI_eq, pI_2, pL_1, pL_ne, pL_eq, pL_22, upEq, upN, aN_at, aN_up, nU_e, nU_n, aAdd_n, aAdd_nm, aSub_p, aSub_n, aSub_mn, aSub_mm, aMul_n, aDiv_n, aRem_n, eq_self_iff_true], rfl⟩
  · simp (disch := omega) only [↓reduceIte, li_0, li_1, li_2, li_3, li_4, li_5, li_6, li_7, li_8, li_9, li_10, li_11, li_12, li_13, li_14, li_15, li_16, li_17, li_18, li_19, li_20, li_21, li_22, li_23, li_24, li_25, li_26, li_27, li_28, li_29, li_30, li_31, li_32, li_33, li_34, li_35, li_36, li_37, li_38, li_39, li_40, li_41, li_42, li_43, li_44, li_45, li_46, li_47, li_48, li_49, li_50, li_51, li_52, li_53, li_54, li_55, li_56, li_57, li_58, li_59, li_60, li_61, li_62, li_63, li_70, li_80, li_81, li_95, li_98, li_99, li_100, li_101, li_102, li_103, li_104, li_105, li_106, li_107, li_108, li_109, li_110, li_111, li_112, li_120, li_122, li_124, li_126, li_130, li_168, li_175, li_200, li_255, li_260, li_360, li_1440, li_12345, li_1000000, li_1103515245, neg_nI, nltT, nltF, neqT, neqF, mlt_n, nlt_m, meq_n, neq_m, meq_mT, meq_mF, mlt_mT, mlt_mF, nI_cl, gd_in, gd_T, Option.bind_some, pI_ne, pI_eq, pI_2, pL_1, pL_ne, pL_eq, pL_22, upEq, upN, aN_at, aN_up, nU_e, nU_n, aAdd_n, aAdd_nm, aSub_p, aSub_n, aSub_mn, aSub_mm, aMul_n, aDiv_n, aRem_n, eq_self_iff_true, h]
    exact ⟨s, rfl, fun _ _ _ _ => rfl, rfl⟩
def FrQ (d : Nat) (s s' : SS) : Prop := (∀ c, c ≠ 11 → ¬ (d ≤ c ∧ c ≤ d + 6) → s'.1 c = s.1 c) ∧ s'.2 = s.2
theorem FrQ_of {d : Nat} {s s' : SS} (h : FrP d s s') : FrQ d s s' := ⟨fun c x y => h.1 c x (by omega), h.2.2⟩
theorem FrQ_tr {d : Nat} {s s1 s2 : SS} (h : FrQ d s s1) (h' : FrQ d s1 s2) : FrQ d s s2 := ⟨fun c x y => by rw [h'.1 c x y, h.1 c x y], by rw [h'.2, h.2]⟩
def PX (tk : Nat → Nat) (X : Nat → Rs) : Prop := ∀ h, h ≤ (X h).2.2.2 ∧ ((X h).1 = true → h < (X h).2.2.2) ∧ ((X h).1 = true → (X h).2.1 = true → dgF (tk (X h).2.2.2) = true)
theorem PX_lvL {tk : Nat → Nat} {lev : Nat} {X : Nat → Rs} (hX : PX tk X) : ∀ n (r : Rs) h, h ≤ r.2.2.2 ∧ (r.1 = true → h < r.2.2.2) ∧ (r.1 = true → r.2.1 = true → dgF (tk r.2.2.2) = true) → h ≤ (lvL tk lev X n r).2.2.2 ∧ ((lvL tk lev X n r).1 = true → h < (lvL tk lev X n r).2.2.2) ∧ ((lvL tk lev X n r).1 = true → (lvL tk lev X n r).2.1 = true → dgF (tk (lvL tk lev X n r).2.2.2) = true) := by
  intro n
  induction n with
  | zero => intro r h x; exact x
  | succ n ih =>
    intro r h x
    rw [lvL]
    have hx := hX (r.2.2.2 + 1)
    split
    · split
      · next c => exact ih _ h ⟨by show h ≤ (X (r.2.2.2 + 1)).2.2.2; omega, fun _ => by show h < (X (r.2.2.2 + 1)).2.2.2; omega, fun _ y => hx.2.2 c y⟩
      · exact ⟨by show h ≤ (X (r.2.2.2 + 1)).2.2.2; omega, (fun y => by cases y), (fun y => by cases y)⟩
    · exact x
theorem PX_lvS {tk : Nat → Nat} {lev : Nat} {X : Nat → Rs} (hX : PX tk X) : PX tk (lvS tk lev X) := fun h => PX_lvL hX (mxF lev) (X h) h (hX h)
theorem PX_eiS {tk : Nat → Nat} {X : Nat → Rs} (hX : PX tk X) : PX tk (eiS tk X) := PX_lvS (PX_lvS (PX_lvS (PX_lvS (PX_lvS hX))))
theorem nm_mono (tk : Nat → Nat) : ∀ n v h, h ≤ (nmF tk n v h).2 := by
  intro n
  induction n with
  | zero => intro v h; exact Nat.le_refl _
  | succ n ih => intro v h; rw [nmF]; split; exact Nat.le_of_succ_le (ih _ _); exact Nat.le_refl _
theorem PX_opS {tk : Nat → Nat} {K : Option (Nat → Rs)} (hK : ∀ Y, K = some Y → PX tk Y) : PX tk (opS tk K) := by
  intro h
  unfold opS
  split
  · next c =>
    have : h < (nmF tk 4 0 h).2 := by
      rw [nmF, if_pos c]
      exact nm_mono _ _ _ _
    exact ⟨by show h ≤ (nmF tk 4 0 h).2; omega, fun _ => this, fun _ y => y⟩
  · split
    · cases K with
      | none => exact ⟨Nat.le_refl _, (fun y => by cases y), (fun y => by cases y)⟩
      | some Y =>
        have := PX_eiS (hK Y rfl) (h + 1)
        simp only
        split
        · exact ⟨by show h ≤ (eiS tk Y (h + 1)).2.2.2 + 1; omega, fun _ => by show h < (eiS tk Y (h + 1)).2.2.2 + 1; omega, (fun _ y => by cases y)⟩
        · exact ⟨by show h ≤ (eiS tk Y (h + 1)).2.2.2; omega, (fun y => by cases y), (fun y => by cases y)⟩
    · split
      · cases K with
        | none => exact ⟨Nat.le_refl _, (fun y => by cases y), (fun y => by cases y)⟩
        | some Y =>
          have := hK Y rfl (h + 1)
          simp only
          split
          · next c => exact ⟨by show h ≤ (Y (h + 1)).2.2.2; omega, fun _ => by show h < (Y (h + 1)).2.2.2; omega, fun _ y => this.2.2 c y⟩
          · exact ⟨by show h ≤ (Y (h + 1)).2.2.2; omega, (fun y => by cases y), (fun y => by cases y)⟩
      · split
        · exact ⟨by show h ≤ h + 1; omega, fun _ => by show h < h + 1; omega, (fun _ y => by cases y)⟩
        · exact ⟨Nat.le_refl _, (fun y => by cases y), (fun y => by cases y)⟩
theorem PX_ops (tk : Nat → Nat) : ∀ r, PX tk (ops tk r) := by
  intro r
  induction r with
  | zero => exact PX_opS (fun Y h => by cases h)
  | succ r ih => exact PX_opS (fun Y h => by cases h; exact ih)
theorem PX_exS (tk : Nat → Nat) : PX tk (exS tk) := PX_eiS (PX_ops tk 6)
theorem c_line {d tl : Nat} {tp : Nat → Nat} (hd : d = 13 ∨ d = 20) (ht : tl ≤ 120) (hp : ∀ k, tp k ≤ 255) {s : SS} {N : Nat} {D : Nat → Dn} {h : Nat} {l : List Ln} (x : DS s d tl tp N D h) (y : LN s d N D l) (hl : l.length ≤ h) : ∃ s', FrQ d s s' ∧ s'.1 11 2 = nI (lnS (tkF tl tp) h).2.2 ∧ s'.1 11 0 = nI tl ∧ h ≤ (lnS (tkF tl tp) h).2.2 ∧ (lnS (tkF tl tp) h).2.2 ≤ tl ∧ ((lnS (tkF tl tp) h).1 = true → f_X8_readLine s = some (nI 1, s') ∧ ∃ N' D', DS s' d tl tp N' D' (lnS (tkF tl tp) h).2.2 ∧ LN s' d N' D' (l ++ [(lnS (tkF tl tp) h).2.1]) ∧ h < (lnS (tkF tl tp) h).2.2) ∧ ((lnS (tkF tl tp) h).1 = false → f_X8_readLine s = some (nI 0, s')) := by
  have ex := c_exS hd ht hp
  have px := PX_exS (tkF tl tp)
  obtain ⟨s1, N1, D1, a1, a2, a3, a4, a5, a6, a7⟩ := ex s N D h x
  have p1 := px h
  have td1 := a1.1
  have q8 := a1.2.2.2.2.2.2.2.1
  have h8 := x.2.2.2.2.2.2.2.1
  have l1 : LN s1 d N1 D1 l := LN_fr y a5.2.1 (a5.1 _ (by omega) (by omega)) (a5.1 _ (by omega) (by omega)) a2 a4
  have hh := c_here a1 ht
  unfold lnS
  cases hr : (exS (tkF tl tp) h).1 with
  | false =>
    rw [if_neg (fun z => by cases z.1)]
    obtain ⟨s2, b1, b2, b3⟩ := c_addLine0 s1 d l.length (mI 1) (mI 1) l1.1 (by omega)
    refine ⟨s2, FrQ_tr (FrQ_of a5) ⟨fun c p q => b2 c (by omega) (by omega) (by omega), b3⟩, by rw [b2 11 (by omega) (by omega) (by omega)]; exact a1.2.1, by rw [b2 11 (by omega) (by omega) (by omega)]; exact a1.2.2.1, p1.1, q8, (fun z => by cases z), fun _ => ?_⟩
    unfold f_X8_readLine
    simp (disch := omega) only [↓bE (a7 hr), ↓reduceIte, li_0, li_1, li_2, li_3, li_4, li_5, li_6, li_7, li_8, li_9, li_10, li_11, li_12, li_13, li_14, li_15, li_16, li_17, li_18, li_19, li_20, li_21, li_22, li_23, li_24, li_25, li_26, li_27, li_28, li_29, li_30, li_31, li_32, li_33, li_34, li_35, li_36, li_37, li_38, li_39, li_40, li_41, li_42, li_43, li_44, li_45, li_46, li_47, li_48, li_49, li_50, li_51, li_52, li_53, li_54, li_55, li_56, li_57, li_58, li_59, li_60, li_61, li_62, li_63, li_70, li_80, li_81, li_95, li_98, li_99, li_100, li_101, li_102, li_103, li_104, li_105, li_106, li_107, li_108, li_109, li_110, li_111, li_112, li_120, li_122, li_124, li_126, li_130, li_168, li_175, li_200, li_255, li_260, li_360, li_1440, li_12345, li_1000000, li_1103515245, neg_nI, nltT, nltF, neqT, neqF, mlt_n, nlt_m, meq_n, neq_m, meq_mT, meq_mF, mlt_mT, mlt_mF, nI_cl, gd_in, gd_T, Option.bind_some, pI_ne, pI_eq, pI_2, pL_1, pL_ne, pL_eq, pL_22, upEq, upN, aN_at, aN_up, nU_e, nU_n, aAdd_n, aAdd_nm, aSub_p, aSub_n, aSub_mn, aSub_mm, aMul_n, aDiv_n, aRem_n, eq_self_iff_true, td1, gd_K, gd_B, b1]
  | true =>
    obtain ⟨w, w1, w2, w3⟩ := a6 hr
    have p2 := p1.2.1 hr
    have N1b := a1.2.2.2.2.2.2.1
    by_cases c : tkF tl tp (exS (tkF tl tp) h).2.2.2 = 63
    · rw [if_pos ⟨rfl, c⟩]
      obtain ⟨t1, t2⟩ := tk_lt c (by omega)
      rw [if_pos t1, t2] at hh
      obtain ⟨xa, xf⟩ := DS_at hd a1 ((exS (tkF tl tp) h).2.2.2 + 1) (by omega) (by omega)
      obtain ⟨s2, N2, D2, b1, b2, b3, b4, b5, b6, b7⟩ := ex _ N1 D1 _ xa
      have p3 := px ((exS (tkF tl tp) h).2.2.2 + 1)
      have td2 := b1.1
      have q82 := b1.2.2.2.2.2.2.2.1
      have f12 := FrP_tr xf b5
      have l2 : LN s2 d N2 D2 l := LN_fr l1 f12.2.1 (f12.1 _ (by omega) (by omega)) (f12.1 _ (by omega) (by omega)) b2 b4
      cases hr2 : (exS (tkF tl tp) ((exS (tkF tl tp) h).2.2.2 + 1)).1 with
      | false =>
        obtain ⟨s3, d1, d2, d3⟩ := c_addLine0 s2 d l.length (nI w) (mI 1) l2.1 (by omega)
        refine ⟨s3, FrQ_tr (FrQ_tr (FrQ_of a5) (FrQ_of f12)) ⟨fun c p q => d2 c (by omega) (by omega) (by omega), d3⟩, by rw [d2 11 (by omega) (by omega) (by omega)]; exact b1.2.1, by rw [d2 11 (by omega) (by omega) (by omega)]; exact b1.2.2.1, by show h ≤ (exS (tkF tl tp) ((exS (tkF tl tp) h).2.2.2 + 1)).2.2.2; omega, q82, (fun z => by cases z), fun _ => ?_⟩
        unfold f_X8_readLine
        simp (disch := omega) only [↓bE (w2), ↓bE (hh), ↓bE (b7 hr2), ↓reduceIte, li_0, li_1, li_2, li_3, li_4, li_5, li_6, li_7, li_8, li_9, li_10, li_11, li_12, li_13, li_14, li_15, li_16, li_17, li_18, li_19, li_20, li_21, li_22, li_23, li_24, li_25, li_26, li_27, li_28, li_29, li_30, li_31, li_32, li_33, li_34, li_35, li_36, li_37, li_38, li_39, li_40, li_41, li_42, li_43, li_44, li_45, li_46, li_47, li_48, li_49, li_50, li_51, li_52, li_53, li_54, li_55, li_56, li_57, li_58, li_59, li_60, li_61, li_62, li_63, li_70, li_80, li_81, li_95, li_98, li_99, li_100, li_101, li_102, li_103, li_104, li_105, li_106, li_107, li_108, li_109, li_110, li_111, li_112, li_120, li_122, li_124, li_126, li_130, li_168, li_175, li_200, li_255, li_260, li_360, li_1440, li_12345, li_1000000, li_1103515245, neg_nI, nltT, nltF, neqT, neqF, mlt_n, nlt_m, meq_n, neq_m, meq_mT, meq_mF, mlt_mT, mlt_mF, nI_cl, gd_in, gd_T, Option.bind_some, pI_ne, pI_eq, pI_2, pL_1, pL_ne, pL_eq, pL_22, upEq, upN, aN_at, aN_up, nU_e, nU_n, aAdd_n, aAdd_nm, aSub_p, aSub_n, aSub_mn, aSub_mm, aMul_n, aDiv_n, aRem_n, eq_self_iff_true, a1.2.1, td2, gd_K, gd_B, d1]
      | true =>
        obtain ⟨u, u1, u2, u3⟩ := b6 hr2
        have p4 := p3.2.1 hr2
        obtain ⟨s3, d1, d2, d3, d4, d5⟩ := c_addLine hd b1 l2 (by omega) (nI w) (nI u) (some (exS (tkF tl tp) h).2.2.1, (exS (tkF tl tp) ((exS (tkF tl tp) h).2.2.2 + 1)).2.2.1) ⟨u, u1, rfl, u3⟩ (fun z => by cases z) (fun e z => by cases z; exact ⟨w, by omega, rfl, by rw [b4 w w1]; exact w3⟩)
        refine ⟨s3, FrQ_tr (FrQ_tr (FrQ_of a5) (FrQ_of f12)) ⟨fun c p q => d4 c (by omega) (by omega) (by omega), d5⟩, d2.2.1, d2.2.2.1, by show h ≤ (exS (tkF tl tp) ((exS (tkF tl tp) h).2.2.2 + 1)).2.2.2; omega, q82, fun _ => ⟨?_, N2, D2, d2, d3, by show h < (exS (tkF tl tp) ((exS (tkF tl tp) h).2.2.2 + 1)).2.2.2; omega⟩, (fun z => by cases z)⟩
        unfold f_X8_readLine
        have N2b := b1.2.2.2.2.2.2.1
        simp (disch := omega) only [↓bE (w2), ↓bE (hh), ↓bE (u2), ↓reduceIte, li_0, li_1, li_2, li_3, li_4, li_5, li_6, li_7, li_8, li_9, li_10, li_11, li_12, li_13, li_14, li_15, li_16, li_17, li_18, li_19, li_20, li_21, li_22, li_23, li_24, li_25, li_26, li_27, li_28, li_29, li_30, li_31, li_32, li_33, li_34, li_35, li_36, li_37, li_38, li_39, li_40, li_41, li_42, li_43, li_44, li_45, li_46, li_47, li_48, li_49, li_50, li_51, li_52, li_53, li_54, li_55, li_56, li_57, li_58, li_59, li_60, li_61, li_62, li_63, li_70, li_80, li_81, li_95, li_98, li_99, li_100, li_101, li_102, li_103, li_104, li_105, li_106, li_107, li_108, li_109, li_110, li_111, li_112, li_120, li_122, li_124, li_126, li_130, li_168, li_175, li_200, li_255, li_260, li_360, li_1440, li_12345, li_1000000, li_1103515245, neg_nI, nltT, nltF, neqT, neqF, mlt_n, nlt_m, meq_n, neq_m, meq_mT, meq_mF, mlt_mT, mlt_mF, nI_cl, gd_in, gd_T, Option.bind_some, pI_ne, pI_eq, pI_2, pL_1, pL_ne, pL_eq, pL_22, upEq, upN, aN_at, aN_up, nU_e, nU_n, aAdd_n, aAdd_nm, aSub_p, aSub_n, aSub_mn, aSub_mm, aMul_n, aDiv_n, aRem_n, eq_self_iff_true, a1.2.1, td2, gd_K, gd_B, d1]
    · rw [if_neg (fun z => c z.2)]
      obtain ⟨s2, b1, b2, b3, b4, b5⟩ := c_addLine hd a1 l1 (by omega) (mI 1) (nI w) (none, (exS (tkF tl tp) h).2.2.1) ⟨w, w1, rfl, w3⟩ (fun _ => rfl) (fun e z => by cases z)
      refine ⟨s2, FrQ_tr (FrQ_of a5) ⟨fun c p q => b4 c (by omega) (by omega) (by omega), b5⟩, b2.2.1, b2.2.2.1, p1.1, q8, fun _ => ⟨?_, N1, D1, b2, b3, p2⟩, (fun z => by cases z)⟩
      have c63 := hv_eq (tl := tl) hp (exS (tkF tl tp) h).2.2.2 63 (by omega)
      unfold f_X8_readLine
      simp (disch := omega) only [↓bE (w2), ↓bE (hh), ↓reduceIte, li_0, li_1, li_2, li_3, li_4, li_5, li_6, li_7, li_8, li_9, li_10, li_11, li_12, li_13, li_14, li_15, li_16, li_17, li_18, li_19, li_20, li_21, li_22, li_23, li_24, li_25, li_26, li_27, li_28, li_29, li_30, li_31, li_32, li_33, li_34, li_35, li_36, li_37, li_38, li_39, li_40, li_41, li_42, li_43, li_44, li_45, li_46, li_47, li_48, li_49, li_50, li_51, li_52, li_53, li_54, li_55, li_56, li_57, li_58, li_59, li_60, li_61, li_62, li_63, li_70, li_80, li_81, li_95, li_98, li_99, li_100, li_101, li_102, li_103, li_104, li_105, li_106, li_107, li_108, li_109, li_110, li_111, li_112, li_120, li_122, li_124, li_126, li_130, li_168, li_175, li_200, li_255, li_260, li_360, li_1440, li_12345, li_1000000, li_1103515245, neg_nI, nltT, nltF, neqT, neqF, mlt_n, nlt_m, meq_n, neq_m, meq_mT, meq_mF, mlt_mT, mlt_mF, nI_cl, gd_in, gd_T, Option.bind_some, pI_ne, pI_eq, pI_2, pL_1, pL_ne, pL_eq, pL_22, upEq, upN, aN_at, aN_up, nU_e, nU_n, aAdd_n, aAdd_nm, aSub_p, aSub_n, aSub_mn, aSub_mm, aMul_n, aDiv_n, aRem_n, eq_self_iff_true, c63, c, td1, gd_K, gd_B, b1]
/-- ok, the lines, where the reading ends -/
noncomputable def lsS (tk : Nat → Nat) (tl : Nat) : Nat → Nat → List Ln → Bool × List Ln × Nat
  | 0, h, l => (false, l, h)
  | n + 1, h, l => if (lnS tk h).1 = true then (if (lnS tk h).2.2 = tl then (true, l ++ [(lnS tk h).2.1], tl) else if tk (lnS tk h).2.2 = 59 then lsS tk tl n ((lnS tk h).2.2 + 1) (l ++ [(lnS tk h).2.1]) else (false, l, (lnS tk h).2.2)) else (false, l, (lnS tk h).2.2)
theorem c_lines {d tl : Nat} {tp : Nat → Nat} (hd : d = 13 ∨ d = 20) (ht : tl ≤ 120) (hp : ∀ k, tp k ≤ 255) : ∀ m k n s N D h l, k + m = 121 → m < n → h ≤ tl → 120 < m + h → DS s d tl tp N D h → LN s d N D l → l.length ≤ h → ∃ s', FrQ d s s' ∧ s'.1 11 2 = nI (lsS (tkF tl tp) tl m h l).2.2 ∧ (lsS (tkF tl tp) tl m h l).2.2 ≤ tl ∧ ((lsS (tkF tl tp) tl m h l).1 = true → F_X8_readLines_2 n (nI k) s = some (nI 1, s') ∧ (lsS (tkF tl tp) tl m h l).2.1 ≠ [] ∧ ∃ N' D' h', DS s' d tl tp N' D' h' ∧ LN s' d N' D' (lsS (tkF tl tp) tl m h l).2.1 ∧ (lsS (tkF tl tp) tl m h l).2.1.length ≤ 120) ∧ ((lsS (tkF tl tp) tl m h l).1 = false → F_X8_readLines_2 n (nI k) s = some (nI 0, s')) := by
  intro m
  induction m with
  | zero =>
    intro k n s N D h l e hn hh hm x y hl
    omega
  | succ m ih =>
    intro k n s N D h l e hn hh hm x y hl
    obtain ⟨n, rfl⟩ : ∃ n', n = n' + 1 := ⟨n - 1, by omega⟩
    obtain ⟨s1, a1, a2, a3, a4, a5, a6, a7⟩ := c_line hd ht hp x y hl
    rw [lsS]
    cases hr : (lnS (tkF tl tp) h).1 with
    | false =>
      rw [if_neg Bool.false_ne_true]
      refine ⟨s1, a1, a2, a5, (fun z => by cases z), fun _ => ?_⟩
      rw [F_X8_readLines_2]
      simp (disch := omega) only [↓bE (a7 hr), ↓reduceIte, li_0, li_1, li_2, li_3, li_4, li_5, li_6, li_7, li_8, li_9, li_10, li_11, li_12, li_13, li_14, li_15, li_16, li_17, li_18, li_19, li_20, li_21, li_22, li_23, li_24, li_25, li_26, li_27, li_28, li_29, li_30, li_31, li_32, li_33, li_34, li_35, li_36, li_37, li_38, li_39, li_40, li_41, li_42, li_43, li_44, li_45, li_46, li_47, li_48, li_49, li_50, li_51, li_52, li_53, li_54, li_55, li_56, li_57, li_58, li_59, li_60, li_61, li_62, li_63, li_70, li_80, li_81, li_95, li_98, li_99, li_100, li_101, li_102, li_103, li_104, li_105, li_106, li_107, li_108, li_109, li_110, li_111, li_112, li_120, li_122, li_124, li_126, li_130, li_168, li_175, li_200, li_255, li_260, li_360, li_1440, li_12345, li_1000000, li_1103515245, neg_nI, nltT, nltF, neqT, neqF, mlt_n, nlt_m, meq_n, neq_m, meq_mT, meq_mF, mlt_mT, mlt_mF, nI_cl, gd_in, gd_T, Option.bind_some, pI_ne, pI_eq, pI_2, pL_1, pL_ne, pL_eq, pL_22, upEq, upN, aN_at, aN_up, nU_e, nU_n, aAdd_n, aAdd_nm, aSub_p, aSub_n, aSub_mn, aSub_mm, aMul_n, aDiv_n, aRem_n, eq_self_iff_true]
    | true =>
      obtain ⟨b1, N1, D1, b2, b3, b4⟩ := a6 hr
      rw [if_pos rfl]
      by_cases c : (lnS (tkF tl tp) h).2.2 = tl
      · rw [if_pos c]
        refine ⟨s1, a1, by rw [a2, c], Nat.le_refl _, fun _ => ⟨?_, by simp, N1, D1, _, b2, b3, ?_⟩, (fun z => by cases z)⟩
        · rw [F_X8_readLines_2]
          simp (disch := omega) only [↓bE (b1), ↓reduceIte, li_0, li_1, li_2, li_3, li_4, li_5, li_6, li_7, li_8, li_9, li_10, li_11, li_12, li_13, li_14, li_15, li_16, li_17, li_18, li_19, li_20, li_21, li_22, li_23, li_24, li_25, li_26, li_27, li_28, li_29, li_30, li_31, li_32, li_33, li_34, li_35, li_36, li_37, li_38, li_39, li_40, li_41, li_42, li_43, li_44, li_45, li_46, li_47, li_48, li_49, li_50, li_51, li_52, li_53, li_54, li_55, li_56, li_57, li_58, li_59, li_60, li_61, li_62, li_63, li_70, li_80, li_81, li_95, li_98, li_99, li_100, li_101, li_102, li_103, li_104, li_105, li_106, li_107, li_108, li_109, li_110, li_111, li_112, li_120, li_122, li_124, li_126, li_130, li_168, li_175, li_200, li_255, li_260, li_360, li_1440, li_12345, li_1000000, li_1103515245, neg_nI, nltT, nltF, neqT, neqF, mlt_n, nlt_m, meq_n, neq_m, meq_mT, meq_mF, mlt_mT, mlt_mF, nI_cl, gd_in, gd_T, Option.bind_some, pI_ne, pI_eq, pI_2, pL_1, pL_ne, pL_eq, pL_22, upEq, upN, aN_at, aN_up, nU_e, nU_n, aAdd_n, aAdd_nm, aSub_p, aSub_n, aSub_mn, aSub_mm, aMul_n, aDiv_n, aRem_n, eq_self_iff_true, a2, a3]
        · show (l ++ [(lnS (tkF tl tp) h).2.1]).length ≤ 120
          rw [List.length_append]
          show l.length + 1 ≤ 120
          omega
      · rw [if_neg c]
        have hhr := c_here b2 ht
        by_cases c2 : tkF tl tp (lnS (tkF tl tp) h).2.2 = 59
        · rw [if_pos c2]
          obtain ⟨t1, t2⟩ := tk_lt c2 (by omega)
          rw [if_pos t1, t2] at hhr
          obtain ⟨xa, xf⟩ := DS_at hd b2 ((lnS (tkF tl tp) h).2.2 + 1) (by omega) (by omega)
          obtain ⟨s2, d1, d2, d3, d4, d5⟩ := ih (k + 1) n _ N1 D1 ((lnS (tkF tl tp) h).2.2 + 1) (l ++ [(lnS (tkF tl tp) h).2.1]) (by omega) (by omega) (by omega) (by omega) xa (LN_fr b3 xf.2.1 (xf.1 _ (by omega) (by omega)) (xf.1 _ (by omega) (by omega)) (Nat.le_refl _) (fun _ _ => rfl)) (by rw [List.length_append]; show l.length + 1 ≤ _; omega)
          have stp : F_X8_readLines_2 (n + 1) (nI k) s = F_X8_readLines_2 n (nI (k + 1)) (pI s1 11 2 (nI ((lnS (tkF tl tp) h).2.2 + 1))) := by
            rw [F_X8_readLines_2]
            simp (disch := omega) only [↓bE (b1), ↓bE (hhr), ↓reduceIte, li_0, li_1, li_2, li_3, li_4, li_5, li_6, li_7, li_8, li_9, li_10, li_11, li_12, li_13, li_14, li_15, li_16, li_17, li_18, li_19, li_20, li_21, li_22, li_23, li_24, li_25, li_26, li_27, li_28, li_29, li_30, li_31, li_32, li_33, li_34, li_35, li_36, li_37, li_38, li_39, li_40, li_41, li_42, li_43, li_44, li_45, li_46, li_47, li_48, li_49, li_50, li_51, li_52, li_53, li_54, li_55, li_56, li_57, li_58, li_59, li_60, li_61, li_62, li_63, li_70, li_80, li_81, li_95, li_98, li_99, li_100, li_101, li_102, li_103, li_104, li_105, li_106, li_107, li_108, li_109, li_110, li_111, li_112, li_120, li_122, li_124, li_126, li_130, li_168, li_175, li_200, li_255, li_260, li_360, li_1440, li_12345, li_1000000, li_1103515245, neg_nI, nltT, nltF, neqT, neqF, mlt_n, nlt_m, meq_n, neq_m, meq_mT, meq_mF, mlt_mT, mlt_mF, nI_cl, gd_in, gd_T, Option.bind_some, pI_ne, pI_eq, pI_2, pL_1, pL_ne, pL_eq, pL_22, upEq, upN, aN_at, aN_up, nU_e, nU_n, aAdd_n, aAdd_nm, aSub_p, aSub_n, aSub_mn, aSub_mm, aMul_n, aDiv_n, aRem_n, eq_self_iff_true, a2, a3]
          exact ⟨s2, FrQ_tr (FrQ_tr a1 (FrQ_of xf)) d1, d2, d3, fun z => by rw [stp]; exact d4 z, fun z => by rw [stp]; exact d5 z⟩
        · rw [if_neg c2]
          refine ⟨s1, a1, a2, a5, (fun z => by cases z), fun _ => ?_⟩
          have c59 := hv_eq (tl := tl) hp (lnS (tkF tl tp) h).2.2 59 (by omega)
          rw [F_X8_readLines_2]
          simp (disch := omega) only [↓bE (b1), ↓bE (hhr), ↓reduceIte, li_0, li_1, li_2, li_3, li_4, li_5, li_6, li_7, li_8, li_9, li_10, li_11, li_12, li_13, li_14, li_15, li_16, li_17, li_18, li_19, li_20, li_21, li_22, li_23, li_24, li_25, li_26, li_27, li_28, li_29, li_30, li_31, li_32, li_33, li_34, li_35, li_36, li_37, li_38, li_39, li_40, li_41, li_42, li_43, li_44, li_45, li_46, li_47, li_48, li_49, li_50, li_51, li_52, li_53, li_54, li_55, li_56, li_57, li_58, li_59, li_60, li_61, li_62, li_63, li_70, li_80, li_81, li_95, li_98, li_99, li_100, li_101, li_102, li_103, li_104, li_105, li_106, li_107, li_108, li_109, li_110, li_111, li_112, li_120, li_122, li_124, li_126, li_130, li_168, li_175, li_200, li_255, li_260, li_360, li_1440, li_12345, li_1000000, li_1103515245, neg_nI, nltT, nltF, neqT, neqF, mlt_n, nlt_m, meq_n, neq_m, meq_mT, meq_mF, mlt_mT, mlt_mF, nI_cl, gd_in, gd_T, Option.bind_some, pI_ne, pI_eq, pI_2, pL_1, pL_ne, pL_eq, pL_22, upEq, upN, aN_at, aN_up, nU_e, nU_n, aAdd_n, aAdd_nm, aSub_p, aSub_n, aSub_mn, aSub_mm, aMul_n, aDiv_n, aRem_n, eq_self_iff_true, a2, a3, c59, c2]
