theorem g5_0 (n : Nat) (b0 b1 : Int32) (b2 : Int64) (s : SS) : g_X5R (n + 1) 0 b0 b1 b2 s = f_X5_spreadHour (g_X5R n) b0 b2 s := rfl
theorem g5_1 (n : Nat) (b0 b1 : Int32) (b2 : Int64) (s : SS) : g_X5R (n + 1) 1 b0 b1 b2 s = f_X5_spreadPerson (g_X5R n) b0 b1 b2 s := rfl
theorem pw12 {w nu X : Nat} (h : nu ≤ 12) : w * (12 - nu) * X + w * nu * X = w * (X * 12) := by
  rw [← Nat.add_mul, ← Nat.mul_add, Nat.sub_add_cancel h, Nat.mul_assoc, Nat.mul_comm 12 X]
theorem c_spP {G : Wd} {A : Nat → Nat} {k : PH → Nat → Nat × Nat} {one st en T0 hr y N0 dl : Nat} (ok : WOK G) (hA : AOK G A) (hh : hr < 24)
    (hk : ∀ (q : PH) (w n B : Nat) (s : SS), N0 ≤ n → GD G q B → B + 6 * y < 1073741824 → OdS s G A q one st en T0 → ∃ s', g_X5R n 0 (nI (hr + 1)) (nI 0) (lN w) s = some s' ∧ OdS s' G A q one st en T0 ∧ OdQ dl s s' (k q w) (w * 12 ^ (y * G.P))) :
    ∀ (m p n : Nat) (q : PH) (w B : Nat) (s : SS), p + m = G.P → m + 1 + N0 ≤ n → GD G q B → B + m + 6 * y < 1073741824 → OdS s G A q one st en T0 →
      ∃ s', g_X5R n 1 (nI hr) (nI p) (lN w) s = some s' ∧ OdS s' G A q one st en T0 ∧ OdQ dl s s' (spP k G A hr m p q w) (w * 12 ^ (y * G.P + m)) := by
  intro m
  induction m with
  | zero =>
    intro p n q w B s e hn hG hB hS
    obtain ⟨n, rfl⟩ : ∃ n', n = n' + 1 := ⟨n - 1, by omega⟩
    have i1 := ok.1
    obtain ⟨s', a1, a2, a3⟩ := hk q w n B s (by omega) hG (by omega) hS
    refine ⟨s', ?_, a2, a3⟩
    rw [g5_1]
    unfold f_X5_spreadPerson
    simp (disch := omega) only [↓reduceIte, li_0, li_1, li_2, li_3, li_4, li_5, li_6, li_7, li_8, li_9, li_10, li_11, li_12, li_13, li_14, li_15, li_16, li_17, li_18, li_19, li_20, li_21, li_22, li_23, li_24, li_25, li_26, li_27, li_28, li_29, li_30, li_31, li_32, li_33, li_34, li_35, li_36, li_37, li_38, li_39, li_40, li_41, li_42, li_43, li_44, li_45, li_46, li_47, li_48, li_49, li_50, li_51, li_52, li_53, li_54, li_55, li_56, li_57, li_58, li_59, li_60, li_61, li_62, li_63, li_70, li_80, li_81, li_95, li_98, li_99, li_100, li_101, li_102, li_103, li_104, li_105, li_106, li_107, li_108, li_109, li_110, li_111, li_112, li_120, li_122, li_124, li_126, li_130, li_168, li_175, li_200, li_255, li_260, li_360, li_1440, li_12345, li_1000000, li_1103515245, neg_nI, nltT, nltF, neqT, neqF, mlt_n, nlt_m, meq_n, neq_m, meq_mT, meq_mF, mlt_mT, mlt_mF, nI_cl, gd_in, gd_T, Option.bind_some, pI_ne, pI_eq, pI_2, pL_1, pL_ne, pL_eq, pL_22, upEq, upN, aN_at, aN_up, nU_e, nU_n, aAdd_n, aAdd_nm, aSub_p, aSub_n, aSub_mn, aSub_mm, aMul_n, aDiv_n, aRem_n, eq_self_iff_true, hS.1.1, a1]
  | succ m ih =>
    intro p n q w B s e hn hG hB hS
    obtain ⟨n, rfl⟩ : ∃ n', n = n' + 1 := ⟨n - 1, by omega⟩
    have i1 := ok.1
    have hp : p < G.P := by omega
    have g1 := hS.1.1
    have ht := hS.1.2.2.2.2.2.2.2.1
    obtain ⟨s1, a1, a2, a3, a4, a5⟩ := c_known (d := 35) (by omega) hS.1 ok hA hS.2.1 hS.2.2.1 hS.2.2.2.1 hp hh hG.1
    have S1 : OdS s1 G A q one st en T0 := OdS_fr hS a4 a5 (fun c x y z w => a2 c (by omega) (by omega)) (by rw [a2 36 (by omega) (by omega)]; exact hS.2.2.1) (by rw [a2 38 (by omega) (by omega)]; exact hS.2.2.2.2.1)
    have Q1 : OdQ dl s s1 (0, 0) 0 := OdQ_nil a3 (fun c x y _ _ _ _ => a2 c y x)
    rw [spP]
    have n12 := nuF_le G A p (A p) hr (G.br p) (q.1 p)
    have nz : 0 < nuF G A p (A p) hr (G.br p) (q.1 p) → q.1 p ≠ 0 := by
      intro h h0
      unfold nuF at h
      rw [if_pos h0] at h
      omega
    generalize hnu : nuF G A p (A p) hr (G.br p) (q.1 p) = nu at *
    have stay : nu < 12 → ∃ s2, g_X5R n 1 (nI hr) (nI (p + 1)) (lN (w * (12 - nu))) s1 = some s2 ∧ OdS s2 G A q one st en T0 ∧ OdQ dl s1 s2 (spP k G A hr m (p + 1) q (w * (12 - nu))) (w * (12 - nu) * 12 ^ (y * G.P + m)) :=
      fun _ => ih (p + 1) n q (w * (12 - nu)) B s1 (by omega) (by omega) hG (by omega) S1
    have fal : ∀ s2, 0 < nu → OdS s2 G A q one st en T0 → ∃ s3 s4 s5, f_X10_fall 35 (nI p) s2 = some (enF G q.1 A p, s3) ∧ g_X5R n 1 (nI hr) (nI (p + 1)) (lN (w * nu)) s3 = some s4 ∧ f_X10_unfall 35 (nI p) (enF G q.1 A p) s4 = some s5 ∧ OdS s5 G A q one st en T0 ∧ OdQ dl s2 s5 (spP k G A hr m (p + 1) (faF G A q p) (w * nu)) (w * nu * 12 ^ (y * G.P + m)) := by
      intro s2 h0 S2
      have ht2 := S2.1.2.2.2.2.2.2.2.1
      obtain ⟨s3, b1, b2, b3, b4, b5⟩ := c_fall (d := 35) S2.1 ok hA hG S2.2.2.1 S2.2.2.2.1 S2.2.2.2.2.1 hp (nz h0)
      have S3 : OdS s3 G A (faF G A q p) one st en T0 := OdS_fr S2 (WC_fr S2.1 (by rw [b5]) (fun c x y => b4 c (by omega) (by omega)) (fun c x y => b4 c (by omega) (by omega))) (KnC_fr S2.2.1 (b4 28 (by omega) (by omega))) (fun c _ _ x y => b4 c x y) b2 b3
      obtain ⟨s4, c1, c2, c3⟩ := ih (p + 1) n (faF G A q p) (w * nu) (B + 1) s3 (by omega) (by omega) (GD_fa hG hA hp (nz h0)) (by omega) S3
      obtain ⟨s5, d1, d2, d3, d4, d5⟩ := c_unfall (d := 35) (s := s4) ok hA hG c2.2.2.1 c2.2.2.2.2.1 hp (nz h0)
      have S5 : OdS s5 G A q one st en T0 := OdS_fr c2 (WC_fr c2.1 (by rw [d5]) (fun c x y => d4 c (by omega) (by omega)) (fun c x y => d4 c (by omega) (by omega))) (KnC_fr c2.2.1 (d4 28 (by omega) (by omega))) (fun c _ _ x y => d4 c x y) d2 d3
      refine ⟨s3, s4, s5, b1, c1, d1, S5, ?_⟩
      have q1 : OdQ dl s2 s3 (0, 0) 0 := OdQ_nil b5 (fun c _ _ _ x y _ => b4 c x y)
      have q2 : OdQ dl s4 s5 (0, 0) 0 := OdQ_nil d5 (fun c _ _ _ x y _ => d4 c x y)
      have q3 := OdQ_tr (dl := dl) (OdQ_tr (dl := dl) q1 c3 (by omega) (by omega)) q2 (by omega) (by omega)
      simp only [Nat.zero_add, Nat.add_zero] at q3
      exact q3
    rw [g5_1]
    unfold f_X5_spreadPerson
    by_cases c1 : nu < 12
    · obtain ⟨s2, b1, b2, b3⟩ := stay c1
      have Q2 := OdQ_tr (dl := dl) Q1 b3 (by omega) (by omega)
      simp only [Nat.zero_add] at Q2
      by_cases c2 : 0 < nu
      · obtain ⟨s3, s4, s5, d1, d2, d3, d4, d5⟩ := fal s2 c2 b2
        refine ⟨s5, ?_, d4, ?_⟩
        · simp (disch := omega) only [↓reduceIte, li_0, li_1, li_2, li_3, li_4, li_5, li_6, li_7, li_8, li_9, li_10, li_11, li_12, li_13, li_14, li_15, li_16, li_17, li_18, li_19, li_20, li_21, li_22, li_23, li_24, li_25, li_26, li_27, li_28, li_29, li_30, li_31, li_32, li_33, li_34, li_35, li_36, li_37, li_38, li_39, li_40, li_41, li_42, li_43, li_44, li_45, li_46, li_47, li_48, li_49, li_50, li_51, li_52, li_53, li_54, li_55, li_56, li_57, li_58, li_59, li_60, li_61, li_62, li_63, li_70, li_80, li_81, li_95, li_98, li_99, li_100, li_101, li_102, li_103, li_104, li_105, li_106, li_107, li_108, li_109, li_110, li_111, li_112, li_120, li_122, li_124, li_126, li_130, li_168, li_175, li_200, li_255, li_260, li_360, li_1440, li_12345, li_1000000, li_1103515245, neg_nI, nltT, nltF, neqT, neqF, mlt_n, nlt_m, meq_n, neq_m, meq_mT, meq_mF, mlt_mT, mlt_mF, nI_cl, gd_in, gd_T, Option.bind_some, pI_ne, pI_eq, pI_2, pL_1, pL_ne, pL_eq, pL_22, upEq, upN, aN_at, aN_up, nU_e, nU_n, aAdd_n, aAdd_nm, aSub_p, aSub_n, aSub_mn, aSub_mm, aMul_n, aDiv_n, aRem_n, eq_self_iff_true, g1, a1, i2l, l_mul, b1, d1, d2, d3]
        · have Q3 := OdQ_tr (dl := dl) Q2 d5 (by omega) (by omega)
          rw [pw12 n12] at Q3
          rw [if_pos c1, if_pos c1, if_pos c2, if_pos c2]
          exact Q3
      · refine ⟨s2, ?_, b2, ?_⟩
        · simp (disch := omega) only [↓reduceIte, li_0, li_1, li_2, li_3, li_4, li_5, li_6, li_7, li_8, li_9, li_10, li_11, li_12, li_13, li_14, li_15, li_16, li_17, li_18, li_19, li_20, li_21, li_22, li_23, li_24, li_25, li_26, li_27, li_28, li_29, li_30, li_31, li_32, li_33, li_34, li_35, li_36, li_37, li_38, li_39, li_40, li_41, li_42, li_43, li_44, li_45, li_46, li_47, li_48, li_49, li_50, li_51, li_52, li_53, li_54, li_55, li_56, li_57, li_58, li_59, li_60, li_61, li_62, li_63, li_70, li_80, li_81, li_95, li_98, li_99, li_100, li_101, li_102, li_103, li_104, li_105, li_106, li_107, li_108, li_109, li_110, li_111, li_112, li_120, li_122, li_124, li_126, li_130, li_168, li_175, li_200, li_255, li_260, li_360, li_1440, li_12345, li_1000000, li_1103515245, neg_nI, nltT, nltF, neqT, neqF, mlt_n, nlt_m, meq_n, neq_m, meq_mT, meq_mF, mlt_mT, mlt_mF, nI_cl, gd_in, gd_T, Option.bind_some, pI_ne, pI_eq, pI_2, pL_1, pL_ne, pL_eq, pL_22, upEq, upN, aN_at, aN_up, nU_e, nU_n, aAdd_n, aAdd_nm, aSub_p, aSub_n, aSub_mn, aSub_mm, aMul_n, aDiv_n, aRem_n, eq_self_iff_true, g1, a1, i2l, l_mul, b1]
        · rw [if_pos c1, if_pos c1, if_neg c2, if_neg c2]
          have e0 : nu = 0 := by omega
          subst e0
          simp only [Nat.add_zero, Nat.sub_zero] at Q2 ⊢
          rw [Nat.mul_assoc, Nat.mul_comm 12] at Q2
          exact Q2
    · have e12 : nu = 12 := by omega
      subst e12
      obtain ⟨s3, s4, s5, d1, d2, d3, d4, d5⟩ := fal s1 (by omega) S1
      refine ⟨s5, ?_, d4, ?_⟩
      · simp (disch := omega) only [↓reduceIte, li_0, li_1, li_2, li_3, li_4, li_5, li_6, li_7, li_8, li_9, li_10, li_11, li_12, li_13, li_14, li_15, li_16, li_17, li_18, li_19, li_20, li_21, li_22, li_23, li_24, li_25, li_26, li_27, li_28, li_29, li_30, li_31, li_32, li_33, li_34, li_35, li_36, li_37, li_38, li_39, li_40, li_41, li_42, li_43, li_44, li_45, li_46, li_47, li_48, li_49, li_50, li_51, li_52, li_53, li_54, li_55, li_56, li_57, li_58, li_59, li_60, li_61, li_62, li_63, li_70, li_80, li_81, li_95, li_98, li_99, li_100, li_101, li_102, li_103, li_104, li_105, li_106, li_107, li_108, li_109, li_110, li_111, li_112, li_120, li_122, li_124, li_126, li_130, li_168, li_175, li_200, li_255, li_260, li_360, li_1440, li_12345, li_1000000, li_1103515245, neg_nI, nltT, nltF, neqT, neqF, mlt_n, nlt_m, meq_n, neq_m, meq_mT, meq_mF, mlt_mT, mlt_mF, nI_cl, gd_in, gd_T, Option.bind_some, pI_ne, pI_eq, pI_2, pL_1, pL_ne, pL_eq, pL_22, upEq, upN, aN_at, aN_up, nU_e, nU_n, aAdd_n, aAdd_nm, aSub_p, aSub_n, aSub_mn, aSub_mm, aMul_n, aDiv_n, aRem_n, eq_self_iff_true, g1, a1, i2l, l_mul, d1, d2, d3]
      · have Q3 := OdQ_tr (dl := dl) Q1 d5 (by omega) (by omega)
        simp only [Nat.zero_add, Nat.lt_irrefl, if_false] at Q3 ⊢
        rw [Nat.mul_assoc, Nat.mul_comm 12] at Q3
        simp only [Nat.reduceLT, if_true]
        exact Q3
theorem c_spH {G : Wd} {A : Nat → Nat} {one st en T0 : Nat} (ok : WOK G) (hA : AOK G A) (ho : one < G.P) (hen : en ≤ 24) (hen2 : en ≤ st + 2) :
    ∀ (y hr n : Nat) (q : PH) (w B : Nat) (s : SS), hr + y = en → st ≤ hr → y * 8 + 1 ≤ n → GD G q B → B + 6 * y < 1073741824 → OdS s G A q one st en T0 →
      ∃ s', g_X5R n 0 (nI hr) (nI 0) (lN w) s = some s' ∧ OdS s' G A q one st en T0 ∧ OdQ (hr - st) s s' (spH G A one y hr q w) (w * 12 ^ (y * G.P)) := by
  intro y
  induction y with
  | zero =>
    intro hr n q w B s e hst hn hG hB hS
    obtain ⟨n, rfl⟩ : ∃ n', n = n' + 1 := ⟨n - 1, by omega⟩
    obtain ⟨s', a1, a2, a3⟩ := c_weigh (w := w) (dl := hr - st) ok hG ho hS
    refine ⟨s', ?_, a2, ?_⟩
    · rw [g5_0]
      unfold f_X5_spreadHour
      simp (disch := omega) only [↓reduceIte, li_0, li_1, li_2, li_3, li_4, li_5, li_6, li_7, li_8, li_9, li_10, li_11, li_12, li_13, li_14, li_15, li_16, li_17, li_18, li_19, li_20, li_21, li_22, li_23, li_24, li_25, li_26, li_27, li_28, li_29, li_30, li_31, li_32, li_33, li_34, li_35, li_36, li_37, li_38, li_39, li_40, li_41, li_42, li_43, li_44, li_45, li_46, li_47, li_48, li_49, li_50, li_51, li_52, li_53, li_54, li_55, li_56, li_57, li_58, li_59, li_60, li_61, li_62, li_63, li_70, li_80, li_81, li_95, li_98, li_99, li_100, li_101, li_102, li_103, li_104, li_105, li_106, li_107, li_108, li_109, li_110, li_111, li_112, li_120, li_122, li_124, li_126, li_130, li_168, li_175, li_200, li_255, li_260, li_360, li_1440, li_12345, li_1000000, li_1103515245, neg_nI, nltT, nltF, neqT, neqF, mlt_n, nlt_m, meq_n, neq_m, meq_mT, meq_mF, mlt_mT, mlt_mF, nI_cl, gd_in, gd_T, Option.bind_some, pI_ne, pI_eq, pI_2, pL_1, pL_ne, pL_eq, pL_22, upEq, upN, aN_at, aN_up, nU_e, nU_n, aAdd_n, aAdd_nm, aSub_p, aSub_n, aSub_mn, aSub_mm, aMul_n, aDiv_n, aRem_n, eq_self_iff_true, hS.2.2.2.2.2.2.2.1, hS.2.2.2.2.2.2.2.2.1, a1]
    · rw [Nat.zero_mul, Nat.pow_zero, Nat.mul_one]
      exact a3
  | succ y ih =>
    intro hr n q w B s e hst hn hG hB hS
    obtain ⟨n, rfl⟩ : ∃ n', n = n' + 1 := ⟨n - 1, by omega⟩
    have i1 := ok.1
    have ht := hS.1.2.2.2.2.2.2.2.1
    have hd2 : hr - st = 0 ∨ hr - st = 1 := by omega
    obtain ⟨h1, h2, h3, h4, h5, h6, h7, h8, h9, h10, h11⟩ := hS
    have hz : DZ (40 + 4 * (hr - st)) s := by rcases hd2 with e | e <;> rw [e] <;> assumption
    obtain ⟨s1, a1, a2, a3, a4, a5, a6, a7⟩ := c_become (d := 40 + 4 * (hr - st)) (o := 35) ok hA hG (by omega) hz h3 h4 h5 h6
    have z40 : DZ 40 s1 := by
      rcases hd2 with e | e
      · rw [e] at a2 a3 a4; exact DZ_of ok hA hG a2 a3 a4
      · exact DZ_fr h10 (a6 41 (by omega) (by omega) (by omega) (by omega)) (a6 42 (by omega) (by omega) (by omega) (by omega)) (a6 43 (by omega) (by omega) (by omega) (by omega))
    have z44 : DZ 44 s1 := by
      rcases hd2 with e | e
      · exact DZ_fr h11 (a6 45 (by omega) (by omega) (by omega) (by omega)) (a6 46 (by omega) (by omega) (by omega) (by omega)) (a6 47 (by omega) (by omega) (by omega) (by omega))
      · rw [e] at a2 a3 a4; exact DZ_of ok hA hG a2 a3 a4
    have f1 : ∀ c, c ≤ 39 → s1.1 c = s.1 c := fun c x => a6 c (by omega) (by omega) (by omega) (by omega)
    have W1 : WC s1 G := WC_fr h1 (by rw [a7]) (fun c x y => f1 c (by omega)) (fun c x y => f1 c (by omega))
    have K1 : KnC s1 G A := KnC_fr h2 (f1 28 (by omega))
    obtain ⟨s2, b1, b2, b3, b4, b5⟩ := c_takeUp (d := 35) (s := s1) ok hA (by omega) hG W1.1 (by rw [f1 _ (by omega)]; exact h3) (by rw [f1 _ (by omega)]; exact h4) (by rw [f1 _ (by omega)]; exact h5) (by omega)
    have S2 : OdS s2 G A (tuF A G.P 0 q) one st en T0 := by
      refine ⟨WC_fr W1 (by rw [b5]) (fun c x y => b4 c (by omega) (by omega)) (fun c x y => b4 c (by omega) (by omega)), KnC_fr K1 (b4 28 (by omega) (by omega)), b2, by rw [b4 37 (by omega) (by omega), f1 37 (by omega)]; exact h4, b3, by rw [b4 35 (by omega) (by omega), f1 35 (by omega)]; exact h6, by rw [b4 34 (by omega) (by omega), f1 34 (by omega)]; exact h7, by rw [b4 34 (by omega) (by omega), f1 34 (by omega)]; exact h8, by rw [b4 34 (by omega) (by omega), f1 34 (by omega)]; exact h9, ?_, ?_⟩
      · exact DZ_fr z40 (b4 41 (by omega) (by omega)) (b4 42 (by omega) (by omega)) (b4 43 (by omega) (by omega))
      · exact DZ_fr z44 (b4 45 (by omega) (by omega)) (b4 46 (by omega) (by omega)) (b4 47 (by omega) (by omega))
    obtain ⟨s3, c1, c2, c3⟩ := c_spP (k := spH G A one y (hr + 1)) (y := y) (N0 := y * 8 + 1) (dl := hr + 1 - st) ok hA (by omega : hr < 24)
      (fun q w n B s x1 x2 x3 x4 => ih (hr + 1) n q w B s (by omega) (by omega) x1 x2 x3 x4) G.P 0 n (tuF A G.P 0 q) w B s2 (by omega) (by omega) (GD_tuF hA G.P 0 q (by omega) hG) (by omega) S2
    obtain ⟨q1, q2, q3, q4, q5, q6⟩ := c3
    have t3 : s3.2.2.1 = s.2.2.1 := by rw [q5, b5, a7]
    have t2 : s2.2.2.1 = s.2.2.1 := by rw [b5, a7]
    have keep : ∀ c, 40 + 4 * (hr - st) ≤ c → c ≤ 43 + 4 * (hr - st) → s3.1 c = s1.1 c := fun c x y => by
      rw [q6 c (by omega) (by omega) (by omega) (by omega) (by omega) (by omega), b4 c (by omega) (by omega)]
    have z35 : DZ 35 s3 := DZ_of ok hA (GD_tuF hA G.P 0 q (by omega) hG) c2.2.2.1 c2.2.2.2.1 c2.2.2.2.2.1
    obtain ⟨s4, d1, d2, d3, d4, d5, d6, d7⟩ := c_become (d := 35) (o := 40 + 4 * (hr - st)) (s := s3) ok hA hG (by omega) z35 (by rw [keep _ (by omega) (by omega)]; exact a2) (by rw [keep _ (by omega) (by omega)]; exact a3) (by rw [keep _ (by omega) (by omega)]; exact a4) (by rw [keep _ (by omega) (by omega)]; exact a5)
    refine ⟨s4, ?_, ?_, ?_⟩
    · rw [g5_0]
      unfold f_X5_spreadHour
      simp (disch := omega) only [↓reduceIte, li_0, li_1, li_2, li_3, li_4, li_5, li_6, li_7, li_8, li_9, li_10, li_11, li_12, li_13, li_14, li_15, li_16, li_17, li_18, li_19, li_20, li_21, li_22, li_23, li_24, li_25, li_26, li_27, li_28, li_29, li_30, li_31, li_32, li_33, li_34, li_35, li_36, li_37, li_38, li_39, li_40, li_41, li_42, li_43, li_44, li_45, li_46, li_47, li_48, li_49, li_50, li_51, li_52, li_53, li_54, li_55, li_56, li_57, li_58, li_59, li_60, li_61, li_62, li_63, li_70, li_80, li_81, li_95, li_98, li_99, li_100, li_101, li_102, li_103, li_104, li_105, li_106, li_107, li_108, li_109, li_110, li_111, li_112, li_120, li_122, li_124, li_126, li_130, li_168, li_175, li_200, li_255, li_260, li_360, li_1440, li_12345, li_1000000, li_1103515245, neg_nI, nltT, nltF, neqT, neqF, mlt_n, nlt_m, meq_n, neq_m, meq_mT, meq_mF, mlt_mT, mlt_mF, nI_cl, gd_in, gd_T, Option.bind_some, pI_ne, pI_eq, pI_2, pL_1, pL_ne, pL_eq, pL_22, upEq, upN, aN_at, aN_up, nU_e, nU_n, aAdd_n, aAdd_nm, aSub_p, aSub_n, aSub_mn, aSub_mm, aMul_n, aDiv_n, aRem_n, eq_self_iff_true, h8, h9, gd_K2, gd_B2, gd_B3, a1, b1, c1, d1]
    · obtain ⟨k1, k2, k3, k4, k5, k6, k7, k8, k9, k10, k11⟩ := c2
      refine ⟨WC_fr k1 (by rw [d7]) (fun c x y => d6 c (by omega) (by omega) (by omega) (by omega)) (fun c x y => d6 c (by omega) (by omega) (by omega) (by omega)), KnC_fr k2 (d6 28 (by omega) (by omega) (by omega) (by omega)), d2, d3, d4, d5, by rw [d6 34 (by omega) (by omega) (by omega) (by omega)]; exact k7, by rw [d6 34 (by omega) (by omega) (by omega) (by omega)]; exact k8, by rw [d6 34 (by omega) (by omega) (by omega) (by omega)]; exact k9, ?_, ?_⟩
      · exact DZ_fr k10 (d6 41 (by omega) (by omega) (by omega) (by omega)) (d6 42 (by omega) (by omega) (by omega) (by omega)) (d6 43 (by omega) (by omega) (by omega) (by omega))
      · exact DZ_fr k11 (d6 45 (by omega) (by omega) (by omega) (by omega)) (d6 46 (by omega) (by omega) (by omega) (by omega)) (d6 47 (by omega) (by omega) (by omega) (by omega))
    · have e2 : s2.2 = s.2 := by rw [b5, a7]
      refine ⟨?_, ?_, ?_, fun c x => ?_, ?_, fun c x1 x2 x3 x4 x5 x6 => ?_⟩
      · rw [d7, q1, e2]; rfl
      · rw [d7, q2, e2]; rfl
      · rw [d7, q3, e2, Nat.add_mul, Nat.one_mul]
      · rw [d7, q4 c x, e2]
      · rw [d7, q5, e2]
      · by_cases e37 : c = 37
        · subst e37
          rw [d3, h4]
        · rw [d6 c (by omega) (by omega) (by omega) (by omega), q6 c x1 (by rw [t2]; exact x2) x3 x4 x5 (by omega), b4 c (by omega) (by omega), a6 c (by omega) (by omega) (by omega) (by omega)]
