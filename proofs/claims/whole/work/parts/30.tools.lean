/-! layer 2: tools -/
def mI (k : Nat) : Int32 := - nI k
def aN (f : Nat → Nat) : Nat → Int32 := fun k => nI (f k)
def nU (f : Nat → Nat) (k v : Nat) : Nat → Nat := fun j => if j = k then v else f j
theorem li_0 : (0 : Int32) = nI 0 := rfl
theorem li_1 : (1 : Int32) = nI 1 := rfl
theorem li_2 : (2 : Int32) = nI 2 := rfl
theorem li_3 : (3 : Int32) = nI 3 := rfl
theorem li_4 : (4 : Int32) = nI 4 := rfl
theorem li_5 : (5 : Int32) = nI 5 := rfl
theorem li_6 : (6 : Int32) = nI 6 := rfl
theorem li_7 : (7 : Int32) = nI 7 := rfl
theorem li_8 : (8 : Int32) = nI 8 := rfl
theorem li_9 : (9 : Int32) = nI 9 := rfl
theorem li_10 : (10 : Int32) = nI 10 := rfl
theorem li_11 : (11 : Int32) = nI 11 := rfl
theorem li_12 : (12 : Int32) = nI 12 := rfl
theorem li_13 : (13 : Int32) = nI 13 := rfl
theorem li_14 : (14 : Int32) = nI 14 := rfl
theorem li_15 : (15 : Int32) = nI 15 := rfl
theorem li_16 : (16 : Int32) = nI 16 := rfl
theorem li_17 : (17 : Int32) = nI 17 := rfl
theorem li_18 : (18 : Int32) = nI 18 := rfl
theorem li_19 : (19 : Int32) = nI 19 := rfl
theorem li_20 : (20 : Int32) = nI 20 := rfl
theorem li_21 : (21 : Int32) = nI 21 := rfl
theorem li_22 : (22 : Int32) = nI 22 := rfl
theorem li_23 : (23 : Int32) = nI 23 := rfl
theorem li_24 : (24 : Int32) = nI 24 := rfl
theorem li_25 : (25 : Int32) = nI 25 := rfl
theorem li_26 : (26 : Int32) = nI 26 := rfl
theorem li_27 : (27 : Int32) = nI 27 := rfl
theorem li_28 : (28 : Int32) = nI 28 := rfl
theorem li_29 : (29 : Int32) = nI 29 := rfl
theorem li_30 : (30 : Int32) = nI 30 := rfl
theorem li_31 : (31 : Int32) = nI 31 := rfl
theorem li_32 : (32 : Int32) = nI 32 := rfl
theorem li_33 : (33 : Int32) = nI 33 := rfl
theorem li_34 : (34 : Int32) = nI 34 := rfl
theorem li_35 : (35 : Int32) = nI 35 := rfl
theorem li_36 : (36 : Int32) = nI 36 := rfl
theorem li_37 : (37 : Int32) = nI 37 := rfl
theorem li_38 : (38 : Int32) = nI 38 := rfl
theorem li_39 : (39 : Int32) = nI 39 := rfl
theorem li_40 : (40 : Int32) = nI 40 := rfl
theorem li_41 : (41 : Int32) = nI 41 := rfl
theorem li_42 : (42 : Int32) = nI 42 := rfl
theorem li_43 : (43 : Int32) = nI 43 := rfl
theorem li_44 : (44 : Int32) = nI 44 := rfl
theorem li_45 : (45 : Int32) = nI 45 := rfl
theorem li_46 : (46 : Int32) = nI 46 := rfl
theorem li_47 : (47 : Int32) = nI 47 := rfl
theorem li_48 : (48 : Int32) = nI 48 := rfl
theorem li_49 : (49 : Int32) = nI 49 := rfl
theorem li_50 : (50 : Int32) = nI 50 := rfl
theorem li_51 : (51 : Int32) = nI 51 := rfl
theorem li_52 : (52 : Int32) = nI 52 := rfl
theorem li_53 : (53 : Int32) = nI 53 := rfl
theorem li_54 : (54 : Int32) = nI 54 := rfl
theorem li_55 : (55 : Int32) = nI 55 := rfl
theorem li_56 : (56 : Int32) = nI 56 := rfl
theorem li_57 : (57 : Int32) = nI 57 := rfl
theorem li_58 : (58 : Int32) = nI 58 := rfl
theorem li_59 : (59 : Int32) = nI 59 := rfl
theorem li_60 : (60 : Int32) = nI 60 := rfl
theorem li_61 : (61 : Int32) = nI 61 := rfl
theorem li_62 : (62 : Int32) = nI 62 := rfl
theorem li_63 : (63 : Int32) = nI 63 := rfl
theorem li_70 : (70 : Int32) = nI 70 := rfl
theorem li_80 : (80 : Int32) = nI 80 := rfl
theorem li_81 : (81 : Int32) = nI 81 := rfl
theorem li_95 : (95 : Int32) = nI 95 := rfl
theorem li_98 : (98 : Int32) = nI 98 := rfl
theorem li_99 : (99 : Int32) = nI 99 := rfl
theorem li_100 : (100 : Int32) = nI 100 := rfl
theorem li_101 : (101 : Int32) = nI 101 := rfl
theorem li_102 : (102 : Int32) = nI 102 := rfl
theorem li_103 : (103 : Int32) = nI 103 := rfl
theorem li_104 : (104 : Int32) = nI 104 := rfl
theorem li_105 : (105 : Int32) = nI 105 := rfl
theorem li_106 : (106 : Int32) = nI 106 := rfl
theorem li_107 : (107 : Int32) = nI 107 := rfl
theorem li_108 : (108 : Int32) = nI 108 := rfl
theorem li_109 : (109 : Int32) = nI 109 := rfl
theorem li_110 : (110 : Int32) = nI 110 := rfl
theorem li_111 : (111 : Int32) = nI 111 := rfl
theorem li_112 : (112 : Int32) = nI 112 := rfl
theorem li_120 : (120 : Int32) = nI 120 := rfl
theorem li_122 : (122 : Int32) = nI 122 := rfl
theorem li_124 : (124 : Int32) = nI 124 := rfl
theorem li_126 : (126 : Int32) = nI 126 := rfl
theorem li_130 : (130 : Int32) = nI 130 := rfl
theorem li_168 : (168 : Int32) = nI 168 := rfl
theorem li_175 : (175 : Int32) = nI 175 := rfl
theorem li_200 : (200 : Int32) = nI 200 := rfl
theorem li_255 : (255 : Int32) = nI 255 := rfl
theorem li_260 : (260 : Int32) = nI 260 := rfl
theorem li_360 : (360 : Int32) = nI 360 := rfl
theorem li_1440 : (1440 : Int32) = nI 1440 := rfl
theorem li_12345 : (12345 : Int32) = nI 12345 := rfl
theorem li_1000000 : (1000000 : Int32) = nI 1000000 := rfl
theorem li_1103515245 : (1103515245 : Int32) = nI 1103515245 := rfl
theorem neg_nI (k : Nat) : - nI k = mI k := rfl
theorem tI {n : Nat} (h : n < 2147483648) : (nI n).toInt = (n : Int) := nI_toInt h
theorem nltT {a b : Nat} (h : a < b) (hb : b < 2147483648) : (nI a < nI b) = True := eq_true (nI_lt h hb)
theorem nltF {a b : Nat} (h : b ≤ a) (ha : a < 2147483648) : (nI a < nI b) = False := eq_false (nI_nlt h ha)
theorem neqT {a b : Nat} (h : a = b) : (nI a = nI b) = True := eq_true (congrArg nI h)
theorem neqF {a b : Nat} (h : a ≠ b) (ha : a < 2147483648) (hb : b < 2147483648) : (nI a = nI b) = False := eq_false fun e => h ((nI_eq ha hb).mp e)
theorem mI_toInt {n : Nat} (h : n < 2147483648) : (mI n).toInt = -(n : Int) := by
  unfold mI
  rw [Int32.toInt_neg, tI h]
  exact Int.bmod_eq_of_le (by omega) (by omega)
theorem mlt_n {a b : Nat} (h0 : 0 < a) (h : a < 2147483648) (hb : b < 2147483648) : (mI a < nI b) = True := by
  apply eq_true
  rw [Int32.lt_iff_toInt_lt, mI_toInt h, tI hb]
  omega
theorem nlt_m {a b : Nat} (h : a < 2147483648) (hb : b < 2147483648) : (nI b < mI a) = False := by
  apply eq_false
  rw [Int32.lt_iff_toInt_lt, mI_toInt h, tI hb]
  omega
theorem meq_n {a b : Nat} (h0 : 0 < a) (h : a < 2147483648) (hb : b < 2147483648) : (mI a = nI b) = False := by
  apply eq_false
  intro e
  have := congrArg Int32.toInt e
  rw [mI_toInt h, tI hb] at this
  omega
theorem neq_m {a b : Nat} (h0 : 0 < a) (h : a < 2147483648) (hb : b < 2147483648) : (nI b = mI a) = False := by
  apply eq_false
  intro e
  have := congrArg Int32.toInt e
  rw [mI_toInt h, tI hb] at this
  omega
theorem meq_mT {a b : Nat} (h : a = b) : (mI a = mI b) = True := eq_true (congrArg mI h)
theorem meq_mF {a b : Nat} (h : a ≠ b) (ha : a < 2147483648) (hb : b < 2147483648) : (mI a = mI b) = False := by
  apply eq_false
  intro e
  have := congrArg Int32.toInt e
  rw [mI_toInt ha, mI_toInt hb] at this
  omega
theorem mlt_mT {a b : Nat} (h : b < a) (ha : a < 2147483648) : (mI a < mI b) = True := by
  apply eq_true
  rw [Int32.lt_iff_toInt_lt, mI_toInt ha, mI_toInt (by omega)]
  omega
theorem mlt_mF {a b : Nat} (h : a ≤ b) (hb : b < 2147483648) : (mI a < mI b) = False := by
  apply eq_false
  rw [Int32.lt_iff_toInt_lt, mI_toInt hb, mI_toInt (by omega)]
  omega
theorem nI_cl {n : Nat} (h : n < 2147483648) : (nI n).toNatClampNeg = n := nI_clamp h
theorem inb_nI {k n : Nat} (h : k < n) (hn : n < 2147483648) : inb (nI k) n = true := by
  rw [inb_eq]
  unfold inb0 nlt
  rw [nI_cl (by omega), decide_eq_false (nI_pos (by omega : k < 2 ^ 31))]
  simp only [Bool.not_false, Bool.true_and]
  exact Nat.ble_eq.mpr h
theorem gd_in {ρ : Type} {k n : Nat} {x : Option ρ} (h : k < n) (hn : n < 2147483648) : gd (inb (nI k) n) x = x := by
  rw [inb_nI h hn]
  rfl
theorem gd_T {ρ : Type} {x : Option ρ} : gd true x = x := rfl
theorem pI_ne {s : SS} {a k b : Nat} {v : Int32} (h : b ≠ a) : (pI s a k v).1 b = s.1 b := va_up_ne _ _ h
theorem pI_eq {s : SS} {a k : Nat} {v : Int32} : (pI s a k v).1 a = va_up (s.1 a) k v := va_up_self _ _ _
theorem pI_2 {s : SS} {a k : Nat} {v : Int32} : (pI s a k v).2 = s.2 := rfl
theorem pL_1 {s : SS} {a k : Nat} {v : Int64} : (pL s a k v).1 = s.1 := rfl
theorem pL_ne {s : SS} {a k b : Nat} {v : Int64} (h : b ≠ a) : (pL s a k v).2.1 b = s.2.1 b := va_up_ne _ _ h
theorem pL_eq {s : SS} {a k : Nat} {v : Int64} : (pL s a k v).2.1 a = va_up (s.2.1 a) k v := va_up_self _ _ _
theorem pL_22 {s : SS} {a k : Nat} {v : Int64} : (pL s a k v).2.2 = s.2.2 := rfl
theorem cI_ne {s : SS} {a sp b dp n c : Nat} (h : c ≠ b) : (cI s a sp b dp n).1 c = s.1 c := va_up_ne _ _ h
theorem cI_eq {s : SS} {a sp b dp n : Nat} : (cI s a sp b dp n).1 b = va_cpy (s.1 a) (s.1 b) sp dp n := va_up_self _ _ _
theorem cI_2 {s : SS} {a sp b dp n : Nat} : (cI s a sp b dp n).2 = s.2 := rfl
theorem cL_1 {s : SS} {a sp b dp n : Nat} : (cL s a sp b dp n).1 = s.1 := rfl
theorem cL_ne {s : SS} {a sp b dp n c : Nat} (h : c ≠ b) : (cL s a sp b dp n).2.1 c = s.2.1 c := va_up_ne _ _ h
theorem cL_eq {s : SS} {a sp b dp n : Nat} : (cL s a sp b dp n).2.1 b = va_cpy (s.2.1 a) (s.2.1 b) sp dp n := va_up_self _ _ _
theorem cL_22 {s : SS} {a sp b dp n : Nat} : (cL s a sp b dp n).2.2 = s.2.2 := rfl
theorem upEq {α : Type} {f : Nat → α} {k j : Nat} {v : α} (h : j = k) : va_up f k v j = v := by subst h; exact va_up_self _ _ _
theorem upN {α : Type} {f : Nat → α} {k j : Nat} {v : α} (h : j ≠ k) : va_up f k v j = f j := va_up_ne _ _ h
theorem aN_at (f : Nat → Nat) (k : Nat) : aN f k = nI (f k) := rfl
theorem nU_e {f : Nat → Nat} {k j v : Nat} (h : j = k) : nU f k v j = v := if_pos h
theorem nU_n {f : Nat → Nat} {k j v : Nat} (h : j ≠ k) : nU f k v j = f j := if_neg h
theorem aN_up (f : Nat → Nat) (k v : Nat) : va_up (aN f) k (nI v) = aN (nU f k v) := by
  funext j
  by_cases h : j = k
  · rw [upEq h, aN_at, nU_e h]
  · rw [upN h, aN_at, aN_at, nU_n h]
theorem aAdd_n (a b : Nat) : aAdd (nI a) (nI b) = nI (a + b) := by rw [aAdd_eq, nI_add]
theorem aSub_p {a b : Nat} (h : b ≤ a) : aSub (nI a) (nI b) = nI (a - b) := by rw [aSub_eq, pk_sub h]
theorem mI_add (a b : Nat) : mI a - nI b = mI (a + b) := by
  unfold mI
  rw [← nI_add, Int32.sub_eq_add_neg, Int32.neg_add, Int32.sub_eq_add_neg]
theorem nsub_neg (a b : Nat) : -(nI a - nI b) = nI b - nI a := Int32.neg_sub
theorem aSub_n {a b : Nat} (h : a < b) : aSub (nI a) (nI b) = mI (b - a) := by
  rw [aSub_eq]
  unfold mI
  rw [← pk_sub (by omega : a ≤ b), nsub_neg]
theorem aSub_mn (a b : Nat) : aSub (mI a) (nI b) = mI (a + b) := by rw [aSub_eq, mI_add]
theorem aSub_mm {a b : Nat} (h : a ≤ b) : aSub (mI a) (mI b) = nI (b - a) := by
  rw [aSub_eq, ← pk_sub h]
  unfold mI
  rw [Int32.sub_eq_add_neg, Int32.neg_neg, Int32.add_comm, Int32.sub_eq_add_neg]
theorem aAdd_nm {a b : Nat} (h : b ≤ a) : aAdd (nI a) (mI b) = nI (a - b) := by
  rw [aAdd_eq, ← pk_sub h]
  unfold mI
  rw [Int32.sub_eq_add_neg]
theorem aMul_n (a b : Nat) : aMul (nI a) (nI b) = nI (a * b) := by rw [aMul_eq, pk_mul]
theorem aDiv_n {a d : Nat} (ha : a < 2147483648) (h0 : 0 < d) (hd : d < 2147483648) : aDiv (nI a) (nI d) = nI (a / d) := by rw [aDiv_eq, pk_div ha h0 hd]
theorem aRem_n {a d : Nat} (ha : a < 2147483648) (h0 : 0 < d) (hd : d < 2147483648) : aRem (nI a) (nI d) = nI (a % d) := by rw [aRem_eq, pk_rem ha h0 hd]
def cntF (f : Nat → Nat) : Nat → Nat → Nat
  | 0, _ => 0
  | n + 1, i => f i + cntF f n (i + 1)
