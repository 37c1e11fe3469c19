/-! who commands, ranks, sums -/
theorem cm_spec (H : Nat → Nat) : ∀ n i b, b < i → (∀ q, q < i → H q ≤ H b) → (∀ q, q < b → H q < H b) → cmF H n i b < i + n ∧ (∀ q, q < i + n → H q ≤ H (cmF H n i b)) ∧ (∀ q, q < cmF H n i b → H q < H (cmF H n i b)) := by
  intro n
  induction n with
  | zero => intro i b h1 h2 h3; exact ⟨h1, h2, h3⟩
  | succ n ih =>
    intro i b h1 h2 h3
    rw [cmF]
    by_cases c : H b < H i
    · rw [if_pos c]
      have := ih (i + 1) i (by omega) (fun q hq => by
        rcases Nat.lt_or_ge q i with e | e
        · have := h2 q e; omega
        · have : q = i := by omega
          subst this; exact Nat.le_refl _) (fun q hq => by have := h2 q hq; omega)
      rw [show i + (n + 1) = i + 1 + n by omega]
      exact this
    · rw [if_neg c]
      have := ih (i + 1) b (by omega) (fun q hq => by
        rcases Nat.lt_or_ge q i with e | e
        · exact h2 q e
        · have : q = i := by omega
          subst this; omega) h3
      rw [show i + (n + 1) = i + 1 + n by omega]
      exact this
def cmd (H : Nat → Nat) (P : Nat) : Nat := cmF H (P - 1) 1 0
theorem cmd_spec {H : Nat → Nat} {P : Nat} (hP : 0 < P) : cmd H P < P ∧ (∀ q, q < P → H q ≤ H (cmd H P)) ∧ (∀ q, q < cmd H P → H q < H (cmd H P)) := by
  have := cm_spec H (P - 1) 1 0 (by omega) (fun q hq => by have : q = 0 := by omega
                                                           subst this; exact Nat.le_refl _) (fun q hq => by omega)
  rw [show 1 + (P - 1) = P by omega] at this
  exact this
theorem cnt_zero {f : Nat → Nat} : ∀ n i, (∀ k, i ≤ k → k < i + n → f k = 0) → cntF f n i = 0 := by
  intro n
  induction n with
  | zero => intro i _; rfl
  | succ n ih =>
    intro i h
    rw [cntF, h i (by omega) (by omega), ih (i + 1) (fun k x y => h k (by omega) (by omega))]
theorem cnt_pos {f : Nat → Nat} : ∀ n i k, i ≤ k → k < i + n → 0 < f k → 0 < cntF f n i := by
  intro n
  induction n with
  | zero => intro i k h1 h2; omega
  | succ n ih =>
    intro i k h1 h2 h3
    rw [cntF]
    by_cases c : k = i
    · subst c; omega
    · have := ih (i + 1) k (by omega) (by omega) h3
      omega
theorem ra_cmd {H : Nat → Nat} {P : Nat} (hP : 0 < P) : raF H P (cmd H P) = 0 := by
  obtain ⟨a, b, c⟩ := cmd_spec (H := H) hP
  unfold raF
  apply cnt_zero
  intro k _ hk
  have := b k (by omega)
  rw [if_neg (by omega)]
  split
  · rw [if_neg]
    intro e
    have := c k e
    omega
  · rfl
theorem ra_ne {H : Nat → Nat} {P p : Nat} (hp : p < P) (hc : p ≠ cmd H P) : 0 < raF H P p := by
  obtain ⟨a, b, c⟩ := cmd_spec (H := H) (P := P) (by omega)
  unfold raF
  refine cnt_pos P 0 (cmd H P) (by omega) (by omega) ?_
  have h1 := b p hp
  by_cases e : H p < H (cmd H P)
  · rw [if_pos e]; omega
  · rw [if_neg e, if_pos (by omega)]
    have : ¬ p < cmd H P := fun e2 => e (c p e2)
    rw [if_pos (by omega)]
    omega
theorem c_cm {s : SS} {d P : Nat} {H : Nat → Nat} (h0 : s.1 1 0 = nI P) (h1 : s.1 (d + 1) = aN H) (hP : P ≤ 6) (hH : ∀ k, H k ≤ 9) : ∀ m i n b, i + m = P → m < n → b < i → F_X9_commander_4 d n (nI b) (nI i) s = some (nI (cmF H m i b), s) := by
  intro m
  induction m with
  | zero =>
    intro i n b e hn hb
    obtain ⟨n, rfl⟩ : ∃ n', n = n' + 1 := ⟨n - 1, by omega⟩
    rw [F_X9_commander_4]
    simp (disch := omega) only [↓reduceIte, li_0, li_1, li_2, li_3, li_4, li_5, li_6, li_7, li_8, li_9, li_10, li_11, li_12, li_13, li_14, li_15, li_16, li_17, li_18, li_19, li_20, li_21, li_22, li_23, li_24, li_25, li_26, li_27, li_28, li_29, li_30, li_31, li_32, li_33, li_34, li_35, li_36, li_37, li_38, li_39, li_40, li_41, li_42, li_43, li_44, li_45, li_46, li_47, li_48, li_49, li_50, li_51, li_52, li_53, li_54, li_55, li_56, li_57, li_58, li_59, li_60, li_61, li_62, li_63, li_70, li_80, li_81, li_95, li_98, li_99, li_100, li_101, li_102, li_103, li_104, li_105, li_106, li_107, li_108, li_109, li_110, li_111, li_112, li_120, li_122, li_124, li_126, li_130, li_168, li_175, li_200, li_255, li_260, li_360, li_1440, li_12345, li_1000000, li_1103515245, neg_nI, nltT, nltF, neqT, neqF, mlt_n, nlt_m, meq_n, neq_m, meq_mT, meq_mF, mlt_mT, mlt_mF, nI_cl, gd_in, gd_T, Option.bind_some, pI_ne, pI_eq, pI_2, pL_1, pL_ne, pL_eq, pL_22, upEq, upN, aN_at, aN_up, nU_e, nU_n, aAdd_n, aAdd_nm, aSub_p, aSub_n, aSub_mn, aSub_mm, aMul_n, aDiv_n, aRem_n, eq_self_iff_true, h0]
    rfl
  | succ m ih =>
    intro i n b e hn hb
    obtain ⟨n, rfl⟩ : ∃ n', n = n' + 1 := ⟨n - 1, by omega⟩
    have i1 := hH i
    have i2 := hH b
    rw [F_X9_commander_4, cmF]
    by_cases c : H b < H i
    · simp (disch := omega) only [↓reduceIte, li_0, li_1, li_2, li_3, li_4, li_5, li_6, li_7, li_8, li_9, li_10, li_11, li_12, li_13, li_14, li_15, li_16, li_17, li_18, li_19, li_20, li_21, li_22, li_23, li_24, li_25, li_26, li_27, li_28, li_29, li_30, li_31, li_32, li_33, li_34, li_35, li_36, li_37, li_38, li_39, li_40, li_41, li_42, li_43, li_44, li_45, li_46, li_47, li_48, li_49, li_50, li_51, li_52, li_53, li_54, li_55, li_56, li_57, li_58, li_59, li_60, li_61, li_62, li_63, li_70, li_80, li_81, li_95, li_98, li_99, li_100, li_101, li_102, li_103, li_104, li_105, li_106, li_107, li_108, li_109, li_110, li_111, li_112, li_120, li_122, li_124, li_126, li_130, li_168, li_175, li_200, li_255, li_260, li_360, li_1440, li_12345, li_1000000, li_1103515245, neg_nI, nltT, nltF, neqT, neqF, mlt_n, nlt_m, meq_n, neq_m, meq_mT, meq_mF, mlt_mT, mlt_mF, nI_cl, gd_in, gd_T, Option.bind_some, pI_ne, pI_eq, pI_2, pL_1, pL_ne, pL_eq, pL_22, upEq, upN, aN_at, aN_up, nU_e, nU_n, aAdd_n, aAdd_nm, aSub_p, aSub_n, aSub_mn, aSub_mm, aMul_n, aDiv_n, aRem_n, eq_self_iff_true, h0, h1]
      rw [if_pos c]
      exact ih (i + 1) n i (by omega) (by omega) (by omega)
    · simp (disch := omega) only [↓reduceIte, li_0, li_1, li_2, li_3, li_4, li_5, li_6, li_7, li_8, li_9, li_10, li_11, li_12, li_13, li_14, li_15, li_16, li_17, li_18, li_19, li_20, li_21, li_22, li_23, li_24, li_25, li_26, li_27, li_28, li_29, li_30, li_31, li_32, li_33, li_34, li_35, li_36, li_37, li_38, li_39, li_40, li_41, li_42, li_43, li_44, li_45, li_46, li_47, li_48, li_49, li_50, li_51, li_52, li_53, li_54, li_55, li_56, li_57, li_58, li_59, li_60, li_61, li_62, li_63, li_70, li_80, li_81, li_95, li_98, li_99, li_100, li_101, li_102, li_103, li_104, li_105, li_106, li_107, li_108, li_109, li_110, li_111, li_112, li_120, li_122, li_124, li_126, li_130, li_168, li_175, li_200, li_255, li_260, li_360, li_1440, li_12345, li_1000000, li_1103515245, neg_nI, nltT, nltF, neqT, neqF, mlt_n, nlt_m, meq_n, neq_m, meq_mT, meq_mF, mlt_mT, mlt_mF, nI_cl, gd_in, gd_T, Option.bind_some, pI_ne, pI_eq, pI_2, pL_1, pL_ne, pL_eq, pL_22, upEq, upN, aN_at, aN_up, nU_e, nU_n, aAdd_n, aAdd_nm, aSub_p, aSub_n, aSub_mn, aSub_mm, aMul_n, aDiv_n, aRem_n, eq_self_iff_true, h0, h1]
      rw [if_neg c]
      exact ih (i + 1) n b (by omega) (by omega) (by omega)
theorem c_commander {s : SS} {d P : Nat} {H : Nat → Nat} (h0 : s.1 1 0 = nI P) (h1 : s.1 (d + 1) = aN H) (hP : P ≤ 6) (hP0 : 0 < P) (hH : ∀ k, H k ≤ 9) : f_X9_commander d s = some (nI (cmd H P), s) :=
  c_cm h0 h1 hP hH (P - 1) 1 fuel0 0 (by omega) (by rw [fuel0_eq]; omega) (by omega)
theorem m_ra {s : SS} {d P p : Nat} {H : Nat → Nat} (h0 : s.1 74 11 = nI P) (h1 : s.1 d = aN H) (hP : P ≤ 6) (hp : p < P) (hH : ∀ k, H k ≤ 9) : ∀ m i n acc, i + m = P → m < n → acc ≤ i → F_X12_rankOf_5 d n (nI p) (nI acc) (nI i) s = some (nI (acc + cntF (fun o => if H p < H o then 1 else if H o = H p then (if o < p then 1 else 0) else 0) m i), s) := by
  intro m
  induction m with
  | zero =>
    intro i n acc e hn ha
    obtain ⟨n, rfl⟩ : ∃ n', n = n' + 1 := ⟨n - 1, by omega⟩
    rw [F_X12_rankOf_5]
    simp (disch := omega) only [↓reduceIte, li_0, li_1, li_2, li_3, li_4, li_5, li_6, li_7, li_8, li_9, li_10, li_11, li_12, li_13, li_14, li_15, li_16, li_17, li_18, li_19, li_20, li_21, li_22, li_23, li_24, li_25, li_26, li_27, li_28, li_29, li_30, li_31, li_32, li_33, li_34, li_35, li_36, li_37, li_38, li_39, li_40, li_41, li_42, li_43, li_44, li_45, li_46, li_47, li_48, li_49, li_50, li_51, li_52, li_53, li_54, li_55, li_56, li_57, li_58, li_59, li_60, li_61, li_62, li_63, li_70, li_80, li_81, li_95, li_98, li_99, li_100, li_101, li_102, li_103, li_104, li_105, li_106, li_107, li_108, li_109, li_110, li_111, li_112, li_120, li_122, li_124, li_126, li_130, li_168, li_175, li_200, li_255, li_260, li_360, li_1440, li_12345, li_1000000, li_1103515245, neg_nI, nltT, nltF, neqT, neqF, mlt_n, nlt_m, meq_n, neq_m, meq_mT, meq_mF, mlt_mT, mlt_mF, nI_cl, gd_in, gd_T, Option.bind_some, pI_ne, pI_eq, pI_2, pL_1, pL_ne, pL_eq, pL_22, upEq, upN, aN_at, aN_up, nU_e, nU_n, aAdd_n, aAdd_nm, aSub_p, aSub_n, aSub_mn, aSub_mm, aMul_n, aDiv_n, aRem_n, eq_self_iff_true, h0]
    rfl
  | succ m ih =>
    intro i n acc e hn ha
    obtain ⟨n, rfl⟩ : ∃ n', n = n' + 1 := ⟨n - 1, by omega⟩
    have i1 := hH i
    have i2 := hH p
    rw [F_X12_rankOf_5, cntF]
    by_cases c : H p < H i
    · simp (disch := omega) only [↓reduceIte, li_0, li_1, li_2, li_3, li_4, li_5, li_6, li_7, li_8, li_9, li_10, li_11, li_12, li_13, li_14, li_15, li_16, li_17, li_18, li_19, li_20, li_21, li_22, li_23, li_24, li_25, li_26, li_27, li_28, li_29, li_30, li_31, li_32, li_33, li_34, li_35, li_36, li_37, li_38, li_39, li_40, li_41, li_42, li_43, li_44, li_45, li_46, li_47, li_48, li_49, li_50, li_51, li_52, li_53, li_54, li_55, li_56, li_57, li_58, li_59, li_60, li_61, li_62, li_63, li_70, li_80, li_81, li_95, li_98, li_99, li_100, li_101, li_102, li_103, li_104, li_105, li_106, li_107, li_108, li_109, li_110, li_111, li_112, li_120, li_122, li_124, li_126, li_130, li_168, li_175, li_200, li_255, li_260, li_360, li_1440, li_12345, li_1000000, li_1103515245, neg_nI, nltT, nltF, neqT, neqF, mlt_n, nlt_m, meq_n, neq_m, meq_mT, meq_mF, mlt_mT, mlt_mF, nI_cl, gd_in, gd_T, Option.bind_some, pI_ne, pI_eq, pI_2, pL_1, pL_ne, pL_eq, pL_22, upEq, upN, aN_at, aN_up, nU_e, nU_n, aAdd_n, aAdd_nm, aSub_p, aSub_n, aSub_mn, aSub_mm, aMul_n, aDiv_n, aRem_n, eq_self_iff_true, h0, h1]
      rw [ih (i + 1) n (acc + 1) (by omega) (by omega) (by omega), if_pos c, Nat.add_assoc]
    · by_cases c2 : H i = H p
      · by_cases c3 : i < p
        · simp (disch := omega) only [↓reduceIte, li_0, li_1, li_2, li_3, li_4, li_5, li_6, li_7, li_8, li_9, li_10, li_11, li_12, li_13, li_14, li_15, li_16, li_17, li_18, li_19, li_20, li_21, li_22, li_23, li_24, li_25, li_26, li_27, li_28, li_29, li_30, li_31, li_32, li_33, li_34, li_35, li_36, li_37, li_38, li_39, li_40, li_41, li_42, li_43, li_44, li_45, li_46, li_47, li_48, li_49, li_50, li_51, li_52, li_53, li_54, li_55, li_56, li_57, li_58, li_59, li_60, li_61, li_62, li_63, li_70, li_80, li_81, li_95, li_98, li_99, li_100, li_101, li_102, li_103, li_104, li_105, li_106, li_107, li_108, li_109, li_110, li_111, li_112, li_120, li_122, li_124, li_126, li_130, li_168, li_175, li_200, li_255, li_260, li_360, li_1440, li_12345, li_1000000, li_1103515245, neg_nI, nltT, nltF, neqT, neqF, mlt_n, nlt_m, meq_n, neq_m, meq_mT, meq_mF, mlt_mT, mlt_mF, nI_cl, gd_in, gd_T, Option.bind_some, pI_ne, pI_eq, pI_2, pL_1, pL_ne, pL_eq, pL_22, upEq, upN, aN_at, aN_up, nU_e, nU_n, aAdd_n, aAdd_nm, aSub_p, aSub_n, aSub_mn, aSub_mm, aMul_n, aDiv_n, aRem_n, eq_self_iff_true, h0, h1]
          rw [ih (i + 1) n (acc + 1) (by omega) (by omega) (by omega), if_neg c, if_pos c2, if_pos c3, Nat.add_assoc]
        · simp (disch := omega) only [↓reduceIte, li_0, li_1, li_2, li_3, li_4, li_5, li_6, li_7, li_8, li_9, li_10, li_11, li_12, li_13, li_14, li_15, li_16, li_17, li_18, li_19, li_20, li_21, li_22, li_23, li_24, li_25, li_26, li_27, li_28, li_29, li_30, li_31, li_32, li_33, li_34, li_35, li_36, li_37, li_38, li_39, li_40, li_41, li_42, li_43, li_44, li_45, li_46, li_47, li_48, li_49, li_50, li_51, li_52, li_53, li_54, li_55, li_56, li_57, li_58, li_59, li_60, li_61, li_62, li_63, li_70, li_80, li_81, li_95, li_98, li_99, li_100, li_101, li_102, li_103, li_104, li_105, li_106, li_107, li_108, li_109, li_110, li_111, li_112, li_120, li_122, li_124, li_126, li_130, li_168, li_175, li_200, li_255, li_260, li_360, li_1440, li_12345, li_1000000, li_1103515245, neg_nI, nltT, nltF, neqT, neqF, mlt_n, nlt_m, meq_n, neq_m, meq_mT, meq_mF, mlt_mT, mlt_mF, nI_cl, gd_in, gd_T, Option.bind_some, pI_ne, pI_eq, pI_2, pL_1, pL_ne, pL_eq, pL_22, upEq, upN, aN_at, aN_up, nU_e, nU_n, aAdd_n, aAdd_nm, aSub_p, aSub_n, aSub_mn, aSub_mm, aMul_n, aDiv_n, aRem_n, eq_self_iff_true, h0, h1]
          rw [ih (i + 1) n acc (by omega) (by omega) (by omega), if_neg c, if_pos c2, if_neg c3, Nat.zero_add]
      · simp (disch := omega) only [↓reduceIte, li_0, li_1, li_2, li_3, li_4, li_5, li_6, li_7, li_8, li_9, li_10, li_11, li_12, li_13, li_14, li_15, li_16, li_17, li_18, li_19, li_20, li_21, li_22, li_23, li_24, li_25, li_26, li_27, li_28, li_29, li_30, li_31, li_32, li_33, li_34, li_35, li_36, li_37, li_38, li_39, li_40, li_41, li_42, li_43, li_44, li_45, li_46, li_47, li_48, li_49, li_50, li_51, li_52, li_53, li_54, li_55, li_56, li_57, li_58, li_59, li_60, li_61, li_62, li_63, li_70, li_80, li_81, li_95, li_98, li_99, li_100, li_101, li_102, li_103, li_104, li_105, li_106, li_107, li_108, li_109, li_110, li_111, li_112, li_120, li_122, li_124, li_126, li_130, li_168, li_175, li_200, li_255, li_260, li_360, li_1440, li_12345, li_1000000, li_1103515245, neg_nI, nltT, nltF, neqT, neqF, mlt_n, nlt_m, meq_n, neq_m, meq_mT, meq_mF, mlt_mT, mlt_mF, nI_cl, gd_in, gd_T, Option.bind_some, pI_ne, pI_eq, pI_2, pL_1, pL_ne, pL_eq, pL_22, upEq, upN, aN_at, aN_up, nU_e, nU_n, aAdd_n, aAdd_nm, aSub_p, aSub_n, aSub_mn, aSub_mm, aMul_n, aDiv_n, aRem_n, eq_self_iff_true, h0, h1]
        rw [ih (i + 1) n acc (by omega) (by omega) (by omega), if_neg c, if_neg c2, Nat.zero_add]
theorem m_rankOf {s : SS} {d P p : Nat} {H : Nat → Nat} (h0 : s.1 74 11 = nI P) (h1 : s.1 d = aN H) (hP : P ≤ 6) (hp : p < P) (hH : ∀ k, H k ≤ 9) : f_X12_rankOf d (nI p) s = some (nI (raF H P p), s) := by
  have := m_ra h0 h1 hP hp hH P 0 fuel0 0 (by omega) (by rw [fuel0_eq]; omega) (by omega)
  rw [Nat.zero_add] at this
  exact this
theorem c_ra {s : SS} {d P p : Nat} {H : Nat → Nat} (h0 : s.1 1 0 = nI P) (h1 : s.1 (d + 1) = aN H) (hP : P ≤ 6) (hp : p < P) (hH : ∀ k, H k ≤ 9) : ∀ m i n acc, i + m = P → m < n → acc ≤ i → F_X9_rank_5 d n (nI p) (nI acc) (nI i) s = some (nI (acc + cntF (fun o => if H p < H o then 1 else if H o = H p then (if o < p then 1 else 0) else 0) m i), s) := by
  intro m
  induction m with
  | zero =>
    intro i n acc e hn ha
    obtain ⟨n, rfl⟩ : ∃ n', n = n' + 1 := ⟨n - 1, by omega⟩
    rw [F_X9_rank_5]
    simp (disch := omega) only [↓reduceIte, li_0, li_1, li_2, li_3, li_4, li_5, li_6, li_7, li_8, li_9, li_10, li_11, li_12, li_13, li_14, li_15, li_16, li_17, li_18, li_19, li_20, li_21, li_22, li_23, li_24, li_25, li_26, li_27, li_28, li_29, li_30, li_31, li_32, li_33, li_34, li_35, li_36, li_37, li_38, li_39, li_40, li_41, li_42, li_43, li_44, li_45, li_46, li_47, li_48, li_49, li_50, li_51, li_52, li_53, li_54, li_55, li_56, li_57, li_58, li_59, li_60, li_61, li_62, li_63, li_70, li_80, li_81, li_95, li_98, li_99, li_100, li_101, li_102, li_103, li_104, li_105, li_106, li_107, li_108, li_109, li_110, li_111, li_112, li_120, li_122, li_124, li_126, li_130, li_168, li_175, li_200, li_255, li_260, li_360, li_1440, li_12345, li_1000000, li_1103515245, neg_nI, nltT, nltF, neqT, neqF, mlt_n, nlt_m, meq_n, neq_m, meq_mT, meq_mF, mlt_mT, mlt_mF, nI_cl, gd_in, gd_T, Option.bind_some, pI_ne, pI_eq, pI_2, pL_1, pL_ne, pL_eq, pL_22, upEq, upN, aN_at, aN_up, nU_e, nU_n, aAdd_n, aAdd_nm, aSub_p, aSub_n, aSub_mn, aSub_mm, aMul_n, aDiv_n, aRem_n, eq_self_iff_true, h0]
    rfl
  | succ m ih =>
    intro i n acc e hn ha
    obtain ⟨n, rfl⟩ : ∃ n', n = n' + 1 := ⟨n - 1, by omega⟩
    have i1 := hH i
    have i2 := hH p
    rw [F_X9_rank_5, cntF]
    by_cases c : H p < H i
    · simp (disch := omega) only [↓reduceIte, li_0, li_1, li_2, li_3, li_4, li_5, li_6, li_7, li_8, li_9, li_10, li_11, li_12, li_13, li_14, li_15, li_16, li_17, li_18, li_19, li_20, li_21, li_22, li_23, li_24, li_25, li_26, li_27, li_28, li_29, li_30, li_31, li_32, li_33, li_34, li_35, li_36, li_37, li_38, li_39, li_40, li_41, li_42, li_43, li_44, li_45, li_46, li_47, li_48, li_49, li_50, li_51, li_52, li_53, li_54, li_55, li_56, li_57, li_58, li_59, li_60, li_61, li_62, li_63, li_70, li_80, li_81, li_95, li_98, li_99, li_100, li_101, li_102, li_103, li_104, li_105, li_106, li_107, li_108, li_109, li_110, li_111, li_112, li_120, li_122, li_124, li_126, li_130, li_168, li_175, li_200, li_255, li_260, li_360, li_1440, li_12345, li_1000000, li_1103515245, neg_nI, nltT, nltF, neqT, neqF, mlt_n, nlt_m, meq_n, neq_m, meq_mT, meq_mF, mlt_mT, mlt_mF, nI_cl, gd_in, gd_T, Option.bind_some, pI_ne, pI_eq, pI_2, pL_1, pL_ne, pL_eq, pL_22, upEq, upN, aN_at, aN_up, nU_e, nU_n, aAdd_n, aAdd_nm, aSub_p, aSub_n, aSub_mn, aSub_mm, aMul_n, aDiv_n, aRem_n, eq_self_iff_true, h0, h1]
      rw [ih (i + 1) n (acc + 1) (by omega) (by omega) (by omega), if_pos c, Nat.add_assoc]
    · by_cases c2 : H i = H p
      · by_cases c3 : i < p
        · simp (disch := omega) only [↓reduceIte, li_0, li_1, li_2, li_3, li_4, li_5, li_6, li_7, li_8, li_9, li_10, li_11, li_12, li_13, li_14, li_15, li_16, li_17, li_18, li_19, li_20, li_21, li_22, li_23, li_24, li_25, li_26, li_27, li_28, li_29, li_30, li_31, li_32, li_33, li_34, li_35, li_36, li_37, li_38, li_39, li_40, li_41, li_42, li_43, li_44, li_45, li_46, li_47, li_48, li_49, li_50, li_51, li_52, li_53, li_54, li_55, li_56, li_57, li_58, li_59, li_60, li_61, li_62, li_63, li_70, li_80, li_81, li_95, li_98, li_99, li_100, li_101, li_102, li_103, li_104, li_105, li_106, li_107, li_108, li_109, li_110, li_111, li_112, li_120, li_122, li_124, li_126, li_130, li_168, li_175, li_200, li_255, li_260, li_360, li_1440, li_12345, li_1000000, li_1103515245, neg_nI, nltT, nltF, neqT, neqF, mlt_n, nlt_m, meq_n, neq_m, meq_mT, meq_mF, mlt_mT, mlt_mF, nI_cl, gd_in, gd_T, Option.bind_some, pI_ne, pI_eq, pI_2, pL_1, pL_ne, pL_eq, pL_22, upEq, upN, aN_at, aN_up, nU_e, nU_n, aAdd_n, aAdd_nm, aSub_p, aSub_n, aSub_mn, aSub_mm, aMul_n, aDiv_n, aRem_n, eq_self_iff_true, h0, h1]
          rw [ih (i + 1) n (acc + 1) (by omega) (by omega) (by omega), if_neg c, if_pos c2, if_pos c3, Nat.add_assoc]
        · simp (disch := omega) only [↓reduceIte, li_0, li_1, li_2, li_3, li_4, li_5, li_6, li_7, li_8, li_9, li_10, li_11, li_12, li_13, li_14, li_15, li_16, li_17, li_18, li_19, li_20, li_21, li_22, li_23, li_24, li_25, li_26, li_27, li_28, li_29, li_30, li_31, li_32, li_33, li_34, li_35, li_36, li_37, li_38, li_39, li_40, li_41, li_42, li_43, li_44, li_45, li_46, li_47, li_48, li_49, li_50, li_51, li_52, li_53, li_54, li_55, li_56, li_57, li_58, li_59, li_60, li_61, li_62, li_63, li_70, li_80, li_81, li_95, li_98, li_99, li_100, li_101, li_102, li_103, li_104, li_105, li_106, li_107, li_108, li_109, li_110, li_111, li_112, li_120, li_122, li_124, li_126, li_130, li_168, li_175, li_200, li_255, li_260, li_360, li_1440, li_12345, li_1000000, li_1103515245, neg_nI, nltT, nltF, neqT, neqF, mlt_n, nlt_m, meq_n, neq_m, meq_mT, meq_mF, mlt_mT, mlt_mF, nI_cl, gd_in, gd_T, Option.bind_some, pI_ne, pI_eq, pI_2, pL_1, pL_ne, pL_eq, pL_22, upEq, upN, aN_at, aN_up, nU_e, nU_n, aAdd_n, aAdd_nm, aSub_p, aSub_n, aSub_mn, aSub_mm, aMul_n, aDiv_n, aRem_n, eq_self_iff_true, h0, h1]
          rw [ih (i + 1) n acc (by omega) (by omega) (by omega), if_neg c, if_pos c2, if_neg c3, Nat.zero_add]
      · simp (disch := omega) only [↓reduceIte, li_0, li_1, li_2, li_3, li_4, li_5, li_6, li_7, li_8, li_9, li_10, li_11, li_12, li_13, li_14, li_15, li_16, li_17, li_18, li_19, li_20, li_21, li_22, li_23, li_24, li_25, li_26, li_27, li_28, li_29, li_30, li_31, li_32, li_33, li_34, li_35, li_36, li_37, li_38, li_39, li_40, li_41, li_42, li_43, li_44, li_45, li_46, li_47, li_48, li_49, li_50, li_51, li_52, li_53, li_54, li_55, li_56, li_57, li_58, li_59, li_60, li_61, li_62, li_63, li_70, li_80, li_81, li_95, li_98, li_99, li_100, li_101, li_102, li_103, li_104, li_105, li_106, li_107, li_108, li_109, li_110, li_111, li_112, li_120, li_122, li_124, li_126, li_130, li_168, li_175, li_200, li_255, li_260, li_360, li_1440, li_12345, li_1000000, li_1103515245, neg_nI, nltT, nltF, neqT, neqF, mlt_n, nlt_m, meq_n, neq_m, meq_mT, meq_mF, mlt_mT, mlt_mF, nI_cl, gd_in, gd_T, Option.bind_some, pI_ne, pI_eq, pI_2, pL_1, pL_ne, pL_eq, pL_22, upEq, upN, aN_at, aN_up, nU_e, nU_n, aAdd_n, aAdd_nm, aSub_p, aSub_n, aSub_mn, aSub_mm, aMul_n, aDiv_n, aRem_n, eq_self_iff_true, h0, h1]
        rw [ih (i + 1) n acc (by omega) (by omega) (by omega), if_neg c, if_neg c2, Nat.zero_add]
theorem c_rank {s : SS} {d P p : Nat} {H : Nat → Nat} (h0 : s.1 1 0 = nI P) (h1 : s.1 (d + 1) = aN H) (hP : P ≤ 6) (hp : p < P) (hH : ∀ k, H k ≤ 9) : f_X9_rank d (nI p) s = some (nI (raF H P p), s) := by
  have := c_ra h0 h1 hP hp hH P 0 fuel0 0 (by omega) (by rw [fuel0_eq]; omega) (by omega)
  rw [Nat.zero_add] at this
  exact this
theorem ra_le (H : Nat → Nat) (P p : Nat) : raF H P p ≤ P := mn_le (fun k => by split; · omega
                                                                                · split
                                                                                  · split <;> omega
                                                                                  · omega)
theorem m_fi {s : SS} {d P : Nat} {H : Nat → Nat} (h0 : s.1 74 11 = nI P) (h1 : s.1 d = aN H) (hP : P ≤ 6) (hH : ∀ k, H k ≤ 9) (hP0 : 0 < P) : ∀ m i n, i + m = cmd H P → m < n → F_X12_firstOf_2 d n (nI i) s = some (nI (cmd H P), s) := by
  obtain ⟨a, b, c⟩ := cmd_spec (H := H) hP0
  intro m
  induction m with
  | zero =>
    intro i n e hn
    obtain ⟨n, rfl⟩ : ∃ n', n = n' + 1 := ⟨n - 1, by omega⟩
    have e : i = cmd H P := by omega
    subst e
    rw [F_X12_firstOf_2, m_rankOf h0 h1 hP a hH, ra_cmd hP0]
    simp (disch := omega) only [↓reduceIte, li_0, li_1, li_2, li_3, li_4, li_5, li_6, li_7, li_8, li_9, li_10, li_11, li_12, li_13, li_14, li_15, li_16, li_17, li_18, li_19, li_20, li_21, li_22, li_23, li_24, li_25, li_26, li_27, li_28, li_29, li_30, li_31, li_32, li_33, li_34, li_35, li_36, li_37, li_38, li_39, li_40, li_41, li_42, li_43, li_44, li_45, li_46, li_47, li_48, li_49, li_50, li_51, li_52, li_53, li_54, li_55, li_56, li_57, li_58, li_59, li_60, li_61, li_62, li_63, li_70, li_80, li_81, li_95, li_98, li_99, li_100, li_101, li_102, li_103, li_104, li_105, li_106, li_107, li_108, li_109, li_110, li_111, li_112, li_120, li_122, li_124, li_126, li_130, li_168, li_175, li_200, li_255, li_260, li_360, li_1440, li_12345, li_1000000, li_1103515245, neg_nI, nltT, nltF, neqT, neqF, mlt_n, nlt_m, meq_n, neq_m, meq_mT, meq_mF, mlt_mT, mlt_mF, nI_cl, gd_in, gd_T, Option.bind_some, pI_ne, pI_eq, pI_2, pL_1, pL_ne, pL_eq, pL_22, upEq, upN, aN_at, aN_up, nU_e, nU_n, aAdd_n, aAdd_nm, aSub_p, aSub_n, aSub_mn, aSub_mm, aMul_n, aDiv_n, aRem_n, eq_self_iff_true, h0]
  | succ m ih =>
    intro i n e hn
    obtain ⟨n, rfl⟩ : ∃ n', n = n' + 1 := ⟨n - 1, by omega⟩
    have h2 := ra_ne (H := H) (P := P) (p := i) (by omega) (by omega)
    have h3 := ra_le H P i
    rw [F_X12_firstOf_2, m_rankOf h0 h1 hP (by omega) hH]
    simp (disch := omega) only [↓reduceIte, li_0, li_1, li_2, li_3, li_4, li_5, li_6, li_7, li_8, li_9, li_10, li_11, li_12, li_13, li_14, li_15, li_16, li_17, li_18, li_19, li_20, li_21, li_22, li_23, li_24, li_25, li_26, li_27, li_28, li_29, li_30, li_31, li_32, li_33, li_34, li_35, li_36, li_37, li_38, li_39, li_40, li_41, li_42, li_43, li_44, li_45, li_46, li_47, li_48, li_49, li_50, li_51, li_52, li_53, li_54, li_55, li_56, li_57, li_58, li_59, li_60, li_61, li_62, li_63, li_70, li_80, li_81, li_95, li_98, li_99, li_100, li_101, li_102, li_103, li_104, li_105, li_106, li_107, li_108, li_109, li_110, li_111, li_112, li_120, li_122, li_124, li_126, li_130, li_168, li_175, li_200, li_255, li_260, li_360, li_1440, li_12345, li_1000000, li_1103515245, neg_nI, nltT, nltF, neqT, neqF, mlt_n, nlt_m, meq_n, neq_m, meq_mT, meq_mF, mlt_mT, mlt_mF, nI_cl, gd_in, gd_T, Option.bind_some, pI_ne, pI_eq, pI_2, pL_1, pL_ne, pL_eq, pL_22, upEq, upN, aN_at, aN_up, nU_e, nU_n, aAdd_n, aAdd_nm, aSub_p, aSub_n, aSub_mn, aSub_mm, aMul_n, aDiv_n, aRem_n, eq_self_iff_true, h0]
    exact ih (i + 1) n (by omega) (by omega)
theorem m_firstOf {s : SS} {d P : Nat} {H : Nat → Nat} (h0 : s.1 74 11 = nI P) (h1 : s.1 d = aN H) (hP : P ≤ 6) (hP0 : 0 < P) (hH : ∀ k, H k ≤ 9) : f_X12_firstOf d s = some (nI (cmd H P), s) := by
  obtain ⟨a, b, c⟩ := cmd_spec (H := H) hP0
  exact m_fi h0 h1 hP hH hP0 (cmd H P) 0 fuel0 (by omega) (by rw [fuel0_eq]; omega)
theorem c_al {s : SS} {d : Nat} {L : Nat → Nat} (h1 : s.1 (d + 3) = aN L) : ∀ m i n acc, i + m = 7 → m < n → F_X2_allLying_4 d n (nI acc) (nI i) s = some (nI (acc + cntF L m i), s) := by
  intro m
  induction m with
  | zero =>
    intro i n acc e hn
    obtain ⟨n, rfl⟩ : ∃ n', n = n' + 1 := ⟨n - 1, by omega⟩
    rw [F_X2_allLying_4]
    simp (disch := omega) only [↓reduceIte, li_0, li_1, li_2, li_3, li_4, li_5, li_6, li_7, li_8, li_9, li_10, li_11, li_12, li_13, li_14, li_15, li_16, li_17, li_18, li_19, li_20, li_21, li_22, li_23, li_24, li_25, li_26, li_27, li_28, li_29, li_30, li_31, li_32, li_33, li_34, li_35, li_36, li_37, li_38, li_39, li_40, li_41, li_42, li_43, li_44, li_45, li_46, li_47, li_48, li_49, li_50, li_51, li_52, li_53, li_54, li_55, li_56, li_57, li_58, li_59, li_60, li_61, li_62, li_63, li_70, li_80, li_81, li_95, li_98, li_99, li_100, li_101, li_102, li_103, li_104, li_105, li_106, li_107, li_108, li_109, li_110, li_111, li_112, li_120, li_122, li_124, li_126, li_130, li_168, li_175, li_200, li_255, li_260, li_360, li_1440, li_12345, li_1000000, li_1103515245, neg_nI, nltT, nltF, neqT, neqF, mlt_n, nlt_m, meq_n, neq_m, meq_mT, meq_mF, mlt_mT, mlt_mF, nI_cl, gd_in, gd_T, Option.bind_some, pI_ne, pI_eq, pI_2, pL_1, pL_ne, pL_eq, pL_22, upEq, upN, aN_at, aN_up, nU_e, nU_n, aAdd_n, aAdd_nm, aSub_p, aSub_n, aSub_mn, aSub_mm, aMul_n, aDiv_n, aRem_n, eq_self_iff_true]
    rfl
  | succ m ih =>
    intro i n acc e hn
    obtain ⟨n, rfl⟩ : ∃ n', n = n' + 1 := ⟨n - 1, by omega⟩
    rw [F_X2_allLying_4, cntF]
    simp (disch := omega) only [↓reduceIte, li_0, li_1, li_2, li_3, li_4, li_5, li_6, li_7, li_8, li_9, li_10, li_11, li_12, li_13, li_14, li_15, li_16, li_17, li_18, li_19, li_20, li_21, li_22, li_23, li_24, li_25, li_26, li_27, li_28, li_29, li_30, li_31, li_32, li_33, li_34, li_35, li_36, li_37, li_38, li_39, li_40, li_41, li_42, li_43, li_44, li_45, li_46, li_47, li_48, li_49, li_50, li_51, li_52, li_53, li_54, li_55, li_56, li_57, li_58, li_59, li_60, li_61, li_62, li_63, li_70, li_80, li_81, li_95, li_98, li_99, li_100, li_101, li_102, li_103, li_104, li_105, li_106, li_107, li_108, li_109, li_110, li_111, li_112, li_120, li_122, li_124, li_126, li_130, li_168, li_175, li_200, li_255, li_260, li_360, li_1440, li_12345, li_1000000, li_1103515245, neg_nI, nltT, nltF, neqT, neqF, mlt_n, nlt_m, meq_n, neq_m, meq_mT, meq_mF, mlt_mT, mlt_mF, nI_cl, gd_in, gd_T, Option.bind_some, pI_ne, pI_eq, pI_2, pL_1, pL_ne, pL_eq, pL_22, upEq, upN, aN_at, aN_up, nU_e, nU_n, aAdd_n, aAdd_nm, aSub_p, aSub_n, aSub_mn, aSub_mm, aMul_n, aDiv_n, aRem_n, eq_self_iff_true, h1]
    rw [ih (i + 1) n (acc + L i) (by omega) (by omega), Nat.add_assoc]
theorem c_allLying {s : SS} {d : Nat} {L : Nat → Nat} (h1 : s.1 (d + 3) = aN L) : f_X2_allLying d s = some (nI (cntF L 7 0), s) := by
  have := c_al h1 7 0 fuel0 0 (by omega) (by rw [fuel0_eq]; omega)
  rw [Nat.zero_add] at this
  exact this
theorem cnt_ext {f : Nat → Nat} : ∀ m n i, (∀ k, i + n ≤ k → f k = 0) → n ≤ m → cntF f m i = cntF f n i := by
  intro m
  induction m with
  | zero => intro n i _ h; have : n = 0 := by omega
            subst this; rfl
  | succ m ih =>
    intro n i h hn
    cases n with
    | zero =>
      rw [cnt_zero (m + 1) i (fun k x _ => h k (by omega))]
      rfl
    | succ n =>
      rw [cntF, cntF, ih n (i + 1) (fun k x => h k (by omega)) (by omega)]
