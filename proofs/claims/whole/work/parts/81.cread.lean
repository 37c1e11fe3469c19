/-! the class reads: numbers, names, levels -/
theorem tk_lt {tl : Nat} {tp : Nat → Nat} {h c : Nat} (e : tkF tl tp h = c) (hc : c ≠ 200) : h < tl ∧ tp h = c := by
  unfold tkF at e
  split at e
  · next x => exact ⟨x, e⟩
  · exact absurd e.symm hc
theorem dg_lt {tl : Nat} {tp : Nat → Nat} {h : Nat} (e : dgF (tkF tl tp h) = true) : h < tl ∧ 48 ≤ tp h ∧ tp h ≤ 57 ∧ tkF tl tp h = tp h := by
  unfold dgF at e
  have e := of_decide_eq_true e
  unfold tkF at e ⊢
  split at e
  · next x => rw [if_pos x]; exact ⟨x, e.1, e.2, rfl⟩
  · omega
theorem c_num {d tl : Nat} {tp : Nat → Nat} (hd : d = 13 ∨ d = 20) (ht : tl ≤ 120) (hp : ∀ k, tp k ≤ 255) : ∀ m k n v s N D h, k + m = 4 → m < n → DS s d tl tp N D h → (N + 1 ≤ 6 + h ∨ (0 < m ∧ dgF (tkF tl tp h) = true)) →
    ∃ s' D', F_X8_readNumber_4 n (nI v) (nI k) s = some (nI N, s') ∧ DS s' d tl tp (N + 1) D' (nmF (tkF tl tp) m v h).2 ∧ h ≤ (nmF (tkF tl tp) m v h).2 ∧ (∀ k, k < N → D' k = D k) ∧ D' N = (fun _ => nI (nmF (tkF tl tp) m v h).1) ∧ FrP d s s' := by
  intro m
  induction m with
  | zero =>
    intro k n v s N D h e hn x hb
    obtain ⟨n, rfl⟩ : ∃ n', n = n' + 1 := ⟨n - 1, by omega⟩
    have td := x.1
    obtain ⟨s', D', a1, a2, a3, a4, a5⟩ := c_addN (v := v) hd x ht (by omega)
    refine ⟨s', D', ?_, a2, Nat.le_refl _, a3, a4, a5⟩
    rw [F_X8_readNumber_4]
    simp (disch := omega) only [↓reduceIte, li_0, li_1, li_2, li_3, li_4, li_5, li_6, li_7, li_8, li_9, li_10, li_11, li_12, li_13, li_14, li_15, li_16, li_17, li_18, li_19, li_20, li_21, li_22, li_23, li_24, li_25, li_26, li_27, li_28, li_29, li_30, li_31, li_32, li_33, li_34, li_35, li_36, li_37, li_38, li_39, li_40, li_41, li_42, li_43, li_44, li_45, li_46, li_47, li_48, li_49, li_50, li_51, li_52, li_53, li_54, li_55, li_56, li_57, li_58, li_59, li_60, li_61, li_62, li_63, li_70, li_80, li_81, li_95, li_98, li_99, li_100, li_101, li_102, li_103, li_104, li_105, li_106, li_107, li_108, li_109, li_110, li_111, li_112, li_120, li_122, li_124, li_126, li_130, li_168, li_175, li_200, li_255, li_260, li_360, li_1440, li_12345, li_1000000, li_1103515245, neg_nI, nltT, nltF, neqT, neqF, mlt_n, nlt_m, meq_n, neq_m, meq_mT, meq_mF, mlt_mT, mlt_mF, nI_cl, gd_in, gd_T, Option.bind_some, pI_ne, pI_eq, pI_2, pL_1, pL_ne, pL_eq, pL_22, upEq, upN, aN_at, aN_up, nU_e, nU_n, aAdd_n, aAdd_nm, aSub_p, aSub_n, aSub_mn, aSub_mm, aMul_n, aDiv_n, aRem_n, eq_self_iff_true, td, gd_K, gd_B, a1]
  | succ m ih =>
    intro k n v s N D h e hn x hb
    obtain ⟨n, rfl⟩ : ∃ n', n = n' + 1 := ⟨n - 1, by omega⟩
    have td := x.1
    rw [nmF]
    by_cases c : dgF (tkF tl tp h) = true
    · obtain ⟨c1, c2, c3, c4⟩ := dg_lt c
      rw [if_pos c]
      obtain ⟨x1, x2⟩ := DS_at hd x (h + 1) (by omega) (by omega)
      obtain ⟨s', D', a1, a2, a3, a4, a5, a6⟩ := ih (k + 1) n (10 * v + tkF tl tp h - 48) _ N D (h + 1) (by omega) (by omega) x1 (Or.inl (by have := x.2.2.2.2.2.2.1; omega))
      refine ⟨s', D', ?_, a2, by omega, a4, a5, FrP_tr x2 a6⟩
      rw [F_X8_readNumber_4]
      have hh := c_here x ht
      have hg := hv_dig (tl := tl) hp h s
      rw [c] at hg
      rw [if_pos c1] at hh hg
      simp (disch := omega) only [↓bE (hh), ↓bE (hg), ↓reduceIte, li_0, li_1, li_2, li_3, li_4, li_5, li_6, li_7, li_8, li_9, li_10, li_11, li_12, li_13, li_14, li_15, li_16, li_17, li_18, li_19, li_20, li_21, li_22, li_23, li_24, li_25, li_26, li_27, li_28, li_29, li_30, li_31, li_32, li_33, li_34, li_35, li_36, li_37, li_38, li_39, li_40, li_41, li_42, li_43, li_44, li_45, li_46, li_47, li_48, li_49, li_50, li_51, li_52, li_53, li_54, li_55, li_56, li_57, li_58, li_59, li_60, li_61, li_62, li_63, li_70, li_80, li_81, li_95, li_98, li_99, li_100, li_101, li_102, li_103, li_104, li_105, li_106, li_107, li_108, li_109, li_110, li_111, li_112, li_120, li_122, li_124, li_126, li_130, li_168, li_175, li_200, li_255, li_260, li_360, li_1440, li_12345, li_1000000, li_1103515245, neg_nI, nltT, nltF, neqT, neqF, mlt_n, nlt_m, meq_n, neq_m, meq_mT, meq_mF, mlt_mT, mlt_mF, nI_cl, gd_in, gd_T, Option.bind_some, pI_ne, pI_eq, pI_2, pL_1, pL_ne, pL_eq, pL_22, upEq, upN, aN_at, aN_up, nU_e, nU_n, aAdd_n, aAdd_nm, aSub_p, aSub_n, aSub_mn, aSub_mm, aMul_n, aDiv_n, aRem_n, eq_self_iff_true, tB_T, x.2.1]
      rw [c4] at a1
      rw [show v * 10 + tp h - 48 = 10 * v + tp h - 48 by omega]
      exact a1
    · rw [if_neg c]
      have hb : N + 1 ≤ 6 + h := by
        rcases hb with y | y
        · exact y
        · exact absurd y.2 c
      obtain ⟨s', D', a1, a2, a3, a4, a5⟩ := c_addN (v := v) hd x ht hb
      refine ⟨s', D', ?_, a2, Nat.le_refl _, a3, a4, a5⟩
      rw [F_X8_readNumber_4]
      have hh := c_here x ht
      have hg := hv_dig (tl := tl) hp h s
      rw [Bool.eq_false_iff.mpr c] at hg
      simp (disch := omega) only [↓bE (hh), ↓bE (hg), ↓reduceIte, li_0, li_1, li_2, li_3, li_4, li_5, li_6, li_7, li_8, li_9, li_10, li_11, li_12, li_13, li_14, li_15, li_16, li_17, li_18, li_19, li_20, li_21, li_22, li_23, li_24, li_25, li_26, li_27, li_28, li_29, li_30, li_31, li_32, li_33, li_34, li_35, li_36, li_37, li_38, li_39, li_40, li_41, li_42, li_43, li_44, li_45, li_46, li_47, li_48, li_49, li_50, li_51, li_52, li_53, li_54, li_55, li_56, li_57, li_58, li_59, li_60, li_61, li_62, li_63, li_70, li_80, li_81, li_95, li_98, li_99, li_100, li_101, li_102, li_103, li_104, li_105, li_106, li_107, li_108, li_109, li_110, li_111, li_112, li_120, li_122, li_124, li_126, li_130, li_168, li_175, li_200, li_255, li_260, li_360, li_1440, li_12345, li_1000000, li_1103515245, neg_nI, nltT, nltF, neqT, neqF, mlt_n, nlt_m, meq_n, neq_m, meq_mT, meq_mF, mlt_mT, mlt_mF, nI_cl, gd_in, gd_T, Option.bind_some, pI_ne, pI_eq, pI_2, pL_1, pL_ne, pL_eq, pL_22, upEq, upN, aN_at, aN_up, nU_e, nU_n, aAdd_n, aAdd_nm, aSub_p, aSub_n, aSub_mn, aSub_mm, aMul_n, aDiv_n, aRem_n, eq_self_iff_true, tB_F, td, gd_K, gd_B, a1]
theorem aC_n {c : Nat} (h : c ≤ 255) : aC (nI c) = nI c := by
  rw [aC_eq, pk_char, pk_tn (by omega), Nat.mod_eq_of_lt (by omega)]
theorem aB_lo {c : Nat} (h : c < 128) : aB (nI c) = nI c := by
  rw [aB_eq]
  apply Int32.toInt_inj.mp
  rw [Int8.toInt_toInt32, Int32.toInt_toInt8, tI (by omega)]
  exact Int.bmod_eq_of_le (by omega) (by omega)
theorem aB_hi {c : Nat} (h : 128 ≤ c) (h2 : c ≤ 255) : aB (nI c) = mI (256 - c) := by
  rw [aB_eq]
  apply Int32.toInt_inj.mp
  rw [Int8.toInt_toInt32, Int32.toInt_toInt8, tI (by omega), mI_toInt (by omega)]
  have : ((c : Int)).bmod (2 ^ 8) = (c : Int) - 256 := by
    rw [Int.bmod_def]
    omega
  rw [this]
  omega
theorem id_iff (c j : Nat) : idF c = some j ↔ (c = 103 ∧ j = 0) ∨ (c = 110 ∧ j = 1) ∨ (c = 98 ∧ j = 2) ∨ (c = 104 ∧ j = 3) ∨ (c = 112 ∧ j = 4) ∨ (c = 111 ∧ j = 5) := by
  unfold idF
  have inj : ∀ a : Nat, (some a = some j) = (a = j) := fun a => by apply propext; exact ⟨fun h => by cases h; rfl, fun h => by rw [h]⟩
  have nn : ((none : Option Nat) = some j) = False := by apply eq_false; intro h; cases h
  by_cases h1 : c = 103
  · rw [if_pos h1, inj]; omega
  rw [if_neg h1]
  by_cases h2 : c = 110
  · rw [if_pos h2, inj]; omega
  rw [if_neg h2]
  by_cases h3 : c = 98
  · rw [if_pos h3, inj]; omega
  rw [if_neg h3]
  by_cases h4 : c = 104
  · rw [if_pos h4, inj]; omega
  rw [if_neg h4]
  by_cases h5 : c = 112
  · rw [if_pos h5, inj]; omega
  rw [if_neg h5]
  by_cases h6 : c = 111
  · rw [if_pos h6, inj]; omega
  rw [if_neg h6, nn]
  exact ⟨fun h => h.elim, fun h => by omega⟩
theorem c_idx {c : Nat} (h : c ≤ 255) (s : SS) : f_J0_indexOf_0f7a4 (aC (nI c)) s = some ((match idF c with | some i => nI i | none => mI 1), s) := by
  obtain ⟨f, hf⟩ : ∃ f, fuel0 = f + 9 := ⟨1991, fuel0_eq⟩
  have e6 : aShr (nI 6) (nI 0) = nI 6 := by rw [aShr_eq]; rfl
  have key : ∀ z : Int32, (∀ k, k < 6 → (tbS.getD k (nI 0) = z) = (idF c = some k)) → F_J1_indexOfChar_4cfef_7 (f + 9) (nI 6) z (nI 0) s = some ((match idF c with | some i => nI i | none => mI 1), s) := by
    intro z hz
    have stp : ∀ k n, k < 6 → tbS.getD k (nI 0) ≠ z → F_J1_indexOfChar_4cfef_7 (n + 1) (nI 6) z (nI k) s = F_J1_indexOfChar_4cfef_7 n (nI 6) z (nI (k + 1)) s := by
      intro k n hk hn
      rw [F_J1_indexOfChar_4cfef_7]
      simp (disch := omega) only [↓reduceIte, li_0, li_1, li_2, li_3, li_4, li_5, li_6, li_7, li_8, li_9, li_10, li_11, li_12, li_13, li_14, li_15, li_16, li_17, li_18, li_19, li_20, li_21, li_22, li_23, li_24, li_25, li_26, li_27, li_28, li_29, li_30, li_31, li_32, li_33, li_34, li_35, li_36, li_37, li_38, li_39, li_40, li_41, li_42, li_43, li_44, li_45, li_46, li_47, li_48, li_49, li_50, li_51, li_52, li_53, li_54, li_55, li_56, li_57, li_58, li_59, li_60, li_61, li_62, li_63, li_70, li_80, li_81, li_95, li_98, li_99, li_100, li_101, li_102, li_103, li_104, li_105, li_106, li_107, li_108, li_109, li_110, li_111, li_112, li_120, li_122, li_124, li_126, li_130, li_168, li_175, li_200, li_255, li_260, li_360, li_1440, li_12345, li_1000000, li_1103515245, neg_nI, nltT, nltF, neqT, neqF, mlt_n, nlt_m, meq_n, neq_m, meq_mT, meq_mF, mlt_mT, mlt_mF, nI_cl, gd_in, gd_T, Option.bind_some, pI_ne, pI_eq, pI_2, pL_1, pL_ne, pL_eq, pL_22, upEq, upN, aN_at, aN_up, nU_e, nU_n, aAdd_n, aAdd_nm, aSub_p, aSub_n, aSub_mn, aSub_mm, aMul_n, aDiv_n, aRem_n, eq_self_iff_true]
      rw [if_neg hn]
    have fin : ∀ k n, k < 6 → tbS.getD k (nI 0) = z → F_J1_indexOfChar_4cfef_7 (n + 1) (nI 6) z (nI k) s = some (nI k, s) := by
      intro k n hk hn
      rw [F_J1_indexOfChar_4cfef_7]
      simp (disch := omega) only [↓reduceIte, li_0, li_1, li_2, li_3, li_4, li_5, li_6, li_7, li_8, li_9, li_10, li_11, li_12, li_13, li_14, li_15, li_16, li_17, li_18, li_19, li_20, li_21, li_22, li_23, li_24, li_25, li_26, li_27, li_28, li_29, li_30, li_31, li_32, li_33, li_34, li_35, li_36, li_37, li_38, li_39, li_40, li_41, li_42, li_43, li_44, li_45, li_46, li_47, li_48, li_49, li_50, li_51, li_52, li_53, li_54, li_55, li_56, li_57, li_58, li_59, li_60, li_61, li_62, li_63, li_70, li_80, li_81, li_95, li_98, li_99, li_100, li_101, li_102, li_103, li_104, li_105, li_106, li_107, li_108, li_109, li_110, li_111, li_112, li_120, li_122, li_124, li_126, li_130, li_168, li_175, li_200, li_255, li_260, li_360, li_1440, li_12345, li_1000000, li_1103515245, neg_nI, nltT, nltF, neqT, neqF, mlt_n, nlt_m, meq_n, neq_m, meq_mT, meq_mF, mlt_mT, mlt_mF, nI_cl, gd_in, gd_T, Option.bind_some, pI_ne, pI_eq, pI_2, pL_1, pL_ne, pL_eq, pL_22, upEq, upN, aN_at, aN_up, nU_e, nU_n, aAdd_n, aAdd_nm, aSub_p, aSub_n, aSub_mn, aSub_mm, aMul_n, aDiv_n, aRem_n, eq_self_iff_true]
      rw [if_pos hn]
    have no : ∀ n, F_J1_indexOfChar_4cfef_7 (n + 1) (nI 6) z (nI 6) s = some (mI 1, s) := by
      intro n
      rw [F_J1_indexOfChar_4cfef_7]
      simp (disch := omega) only [↓reduceIte, li_0, li_1, li_2, li_3, li_4, li_5, li_6, li_7, li_8, li_9, li_10, li_11, li_12, li_13, li_14, li_15, li_16, li_17, li_18, li_19, li_20, li_21, li_22, li_23, li_24, li_25, li_26, li_27, li_28, li_29, li_30, li_31, li_32, li_33, li_34, li_35, li_36, li_37, li_38, li_39, li_40, li_41, li_42, li_43, li_44, li_45, li_46, li_47, li_48, li_49, li_50, li_51, li_52, li_53, li_54, li_55, li_56, li_57, li_58, li_59, li_60, li_61, li_62, li_63, li_70, li_80, li_81, li_95, li_98, li_99, li_100, li_101, li_102, li_103, li_104, li_105, li_106, li_107, li_108, li_109, li_110, li_111, li_112, li_120, li_122, li_124, li_126, li_130, li_168, li_175, li_200, li_255, li_260, li_360, li_1440, li_12345, li_1000000, li_1103515245, neg_nI, nltT, nltF, neqT, neqF, mlt_n, nlt_m, meq_n, neq_m, meq_mT, meq_mF, mlt_mT, mlt_mF, nI_cl, gd_in, gd_T, Option.bind_some, pI_ne, pI_eq, pI_2, pL_1, pL_ne, pL_eq, pL_22, upEq, upN, aN_at, aN_up, nU_e, nU_n, aAdd_n, aAdd_nm, aSub_p, aSub_n, aSub_mn, aSub_mm, aMul_n, aDiv_n, aRem_n, eq_self_iff_true]
    have ne : ∀ k j, k < 6 → idF c = some j → k ≠ j → tbS.getD k (nI 0) ≠ z := fun k j hk hj hn e => by
      have := (hz k hk).mp e
      rw [hj] at this
      cases this
      exact hn rfl
    cases hi : idF c with
    | none =>
      have nn : ∀ k, k < 6 → tbS.getD k (nI 0) ≠ z := fun k hk e => by
        have := (hz k hk).mp e
        rw [hi] at this
        cases this
      rw [stp 0 _ (by omega) (nn 0 (by omega)), stp 1 _ (by omega) (nn 1 (by omega)), stp 2 _ (by omega) (nn 2 (by omega)), stp 3 _ (by omega) (nn 3 (by omega)), stp 4 _ (by omega) (nn 4 (by omega)), stp 5 _ (by omega) (nn 5 (by omega)), no]
    | some j =>
      have hj : j < 6 := by have := (id_iff c j).mp hi; omega
      match j, hj, hi with
      | 0, _, hi => rw [fin 0 _ (by omega) ((hz 0 (by omega)).mpr hi)]
      | 1, _, hi => rw [stp 0 _ (by omega) (ne 0 1 (by omega) hi (by omega)), fin 1 _ (by omega) ((hz 1 (by omega)).mpr hi)]
      | 2, _, hi => rw [stp 0 _ (by omega) (ne 0 2 (by omega) hi (by omega)), stp 1 _ (by omega) (ne 1 2 (by omega) hi (by omega)), fin 2 _ (by omega) ((hz 2 (by omega)).mpr hi)]
      | 3, _, hi => rw [stp 0 _ (by omega) (ne 0 3 (by omega) hi (by omega)), stp 1 _ (by omega) (ne 1 3 (by omega) hi (by omega)), stp 2 _ (by omega) (ne 2 3 (by omega) hi (by omega)), fin 3 _ (by omega) ((hz 3 (by omega)).mpr hi)]
      | 4, _, hi => rw [stp 0 _ (by omega) (ne 0 4 (by omega) hi (by omega)), stp 1 _ (by omega) (ne 1 4 (by omega) hi (by omega)), stp 2 _ (by omega) (ne 2 4 (by omega) hi (by omega)), stp 3 _ (by omega) (ne 3 4 (by omega) hi (by omega)), fin 4 _ (by omega) ((hz 4 (by omega)).mpr hi)]
      | 5, _, hi => rw [stp 0 _ (by omega) (ne 0 5 (by omega) hi (by omega)), stp 1 _ (by omega) (ne 1 5 (by omega) hi (by omega)), stp 2 _ (by omega) (ne 2 5 (by omega) hi (by omega)), stp 3 _ (by omega) (ne 3 5 (by omega) hi (by omega)), stp 4 _ (by omega) (ne 4 5 (by omega) hi (by omega)), fin 5 _ (by omega) ((hz 5 (by omega)).mpr hi)]
  have tb : ∀ k, k < 6 → ∃ j, tbS.getD k (nI 0) = nI j ∧ j < 128 ∧ (idF c = some k ↔ c = j) := by
    intro k hk
    match k, hk with
    | 0, _ => exact ⟨103, rfl, by omega, by rw [id_iff]; omega⟩
    | 1, _ => exact ⟨110, rfl, by omega, by rw [id_iff]; omega⟩
    | 2, _ => exact ⟨98, rfl, by omega, by rw [id_iff]; omega⟩
    | 3, _ => exact ⟨104, rfl, by omega, by rw [id_iff]; omega⟩
    | 4, _ => exact ⟨112, rfl, by omega, by rw [id_iff]; omega⟩
    | 5, _ => exact ⟨111, rfl, by omega, by rw [id_iff]; omega⟩
  have kz := key (aB (nI c)) (fun k hk => by
    obtain ⟨j, e1, e2, e3⟩ := tb k hk
    apply propext
    rw [e1, e3]
    rcases Nat.lt_or_ge c 128 with z | z
    · rw [aB_lo z, nI_eq (by omega) (by omega)]
      exact ⟨fun x => x.symm, fun x => x.symm⟩
    · rw [aB_hi z h]
      constructor
      · intro x; exact absurd x (of_eq_false (neq_m (by omega) (by omega) (by omega)))
      · intro x; omega)
  rw [aC_n h]
  simp (disch := omega) only [↓reduceIte, li_0, li_1, li_2, li_3, li_4, li_5, li_6, li_7, li_8, li_9, li_10, li_11, li_12, li_13, li_14, li_15, li_16, li_17, li_18, li_19, li_20, li_21, li_22, li_23, li_24, li_25, li_26, li_27, li_28, li_29, li_30, li_31, li_32, li_33, li_34, li_35, li_36, li_37, li_38, li_39, li_40, li_41, li_42, li_43, li_44, li_45, li_46, li_47, li_48, li_49, li_50, li_51, li_52, li_53, li_54, li_55, li_56, li_57, li_58, li_59, li_60, li_61, li_62, li_63, li_70, li_80, li_81, li_95, li_98, li_99, li_100, li_101, li_102, li_103, li_104, li_105, li_106, li_107, li_108, li_109, li_110, li_111, li_112, li_120, li_122, li_124, li_126, li_130, li_168, li_175, li_200, li_255, li_260, li_360, li_1440, li_12345, li_1000000, li_1103515245, neg_nI, nltT, nltF, neqT, neqF, mlt_n, nlt_m, meq_n, neq_m, meq_mT, meq_mF, mlt_mT, mlt_mF, nI_cl, gd_in, gd_T, Option.bind_some, pI_ne, pI_eq, pI_2, pL_1, pL_ne, pL_eq, pL_22, upEq, upN, aN_at, aN_up, nU_e, nU_n, aAdd_n, aAdd_nm, aSub_p, aSub_n, aSub_mn, aSub_mm, aMul_n, aDiv_n, aRem_n, eq_self_iff_true, f_J0_indexOf_0f7a4, f_J0_indexOf_7cf53, f_J0_isLatin1_aae02, f_J0_length_8abf5, f_J0_coder_7d493, e6, f_J1_indexOf_4cfef, f_J1_canEncode_9a6ad, c_max, c_min, f_J1_indexOfChar_4cfef]
  rw [hf, kz]
  rfl
