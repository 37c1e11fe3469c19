/-! what hours keep -/
def AOK (G : Wd) (A : Nat → Nat) : Prop := (∀ k, k < G.P → A k < G.Q) ∧ (∀ k, G.P ≤ k → A k = 0)
def GD (G : Wd) (q : PH) (B : Nat) : Prop := (∀ k, q.1 k ≤ 9) ∧ (∀ k, G.P ≤ k → q.1 k = 0) ∧ (∀ k, q.2 k ≤ B) ∧ (∀ k, G.Q ≤ k → q.2 k = 0)
theorem AOK_7 {G : Wd} {A : Nat → Nat} (h : AOK G A) (ok : WOK G) (k : Nat) : A k < 7 := by
  have := ok.2.1
  rcases Nat.lt_or_ge k G.P with e | e
  · have := h.1 k e; omega
  · have := h.2 k e; omega
theorem GD_mono {G : Wd} {q : PH} {B B' : Nat} (h : GD G q B) (hB : B ≤ B') : GD G q B' := ⟨h.1, h.2.1, fun k => Nat.le_trans (h.2.2.1 k) hB, h.2.2.2⟩
theorem nU_at (f : Nat → Nat) (k v j : Nat) : nU f k v j = if j = k then v else f j := rfl
theorem GD_tuS {G : Wd} {A : Nat → Nat} {q : PH} {B p : Nat} (h : GD G q B) (hA : AOK G A) (hp : p < G.P) : GD G (tuS A q p) B := by
  obtain ⟨h1, h2, h3, h4⟩ := h
  unfold tuS
  split
  · next c =>
    have hq := hA.1 p hp
    refine ⟨fun k => ?_, fun k hk => ?_, fun k => ?_, fun k hk => ?_⟩
    · have := h1 k
      simp only [nU_at]
      split <;> omega
    · have := h2 k hk
      simp only [nU_at]
      split <;> omega
    · have := h3 k
      have := h3 (A p)
      simp only [nU_at]
      split <;> omega
    · have := h4 k hk
      simp only [nU_at]
      split <;> omega
  · exact ⟨h1, h2, h3, h4⟩
theorem GD_tuF {G : Wd} {A : Nat → Nat} {B : Nat} (hA : AOK G A) : ∀ n p (q : PH), p + n ≤ G.P → GD G q B → GD G (tuF A n p q) B := by
  intro n
  induction n with
  | zero => intro p q _ h; exact h
  | succ n ih => intro p q hp h; exact ih (p + 1) _ (by omega) (GD_tuS h hA (by omega))
theorem fiF_some {c : Nat → Bool} : ∀ n i o, fiF c n i = some o → i ≤ o ∧ o < i + n ∧ c o = true := by
  intro n
  induction n with
  | zero => intro i o h; cases h
  | succ n ih =>
    intro i o h
    rw [fiF] at h
    by_cases hc : c i = true
    · rw [if_pos hc] at h
      cases h
      exact ⟨by omega, by omega, hc⟩
    · rw [if_neg hc] at h
      have := ih (i + 1) o h
      exact ⟨by omega, by omega, this.2.2⟩
theorem caF_some {G : Wd} {H A : Nat → Nat} {p o : Nat} (hp : p < G.P) (h : caF G H A p = some o) : o < G.P ∧ H o < 9 ∧ o ≠ p := by
  unfold caF at h
  cases h1 : fiF (fun k => decide (A (wrF G.P p k) = A p ∧ H (wrF G.P p k) < 9)) (G.P - 1) 1 with
  | some k =>
    rw [h1] at h
    cases h
    obtain ⟨a, b, c⟩ := fiF_some _ _ _ h1
    have c := of_decide_eq_true c
    refine ⟨?_, c.2, ?_⟩
    · unfold wrF; split <;> omega
    · unfold wrF; split <;> omega
  | none =>
    rw [h1] at h
    simp only at h
    split at h
    · cases h
    · next c0 =>
      obtain ⟨a, b, c⟩ := fiF_some _ _ _ h
      have c := of_decide_eq_true c
      refine ⟨by omega, c.2, fun e => ?_⟩
      subst e
      exact c0 (Or.inl c.1.symm)
theorem whF_lt {G : Wd} {A : Nat → Nat} {p : Nat} (hA : AOK G A) (hp : p < G.P) : whF G A p < G.Q := by
  unfold whF
  split
  · assumption
  · exact hA.1 p hp
theorem GD_fa {G : Wd} {A : Nat → Nat} {q : PH} {B p : Nat} (h : GD G q B) (hA : AOK G A) (hp : p < G.P) (h0 : q.1 p ≠ 0) : GD G (faF G A q p) (B + 1) := by
  obtain ⟨h1, h2, h3, h4⟩ := h
  unfold faF
  cases hc : caF G q.1 A p with
  | some o =>
    obtain ⟨c1, c2, c3⟩ := caF_some hp hc
    refine ⟨fun k => ?_, fun k hk => ?_, fun k => ?_, fun k hk => h4 k hk⟩
    · have := h1 k
      have := h1 p
      simp only [nU_at]
      split
      · next e => subst e; omega
      · split <;> omega
    · have := h2 k hk
      simp only [nU_at]
      rw [if_neg (by omega), if_neg (by omega)]
      exact this
    · have := h3 k
      show q.2 k ≤ B + 1
      omega
  | none =>
    have := whF_lt hA hp
    refine ⟨fun k => ?_, fun k hk => ?_, fun k => ?_, fun k hk => ?_⟩
    · have := h1 k
      have := h1 p
      simp only [nU_at]
      split <;> omega
    · have := h2 k hk
      simp only [nU_at]
      rw [if_neg (by omega)]
      exact this
    · have := h3 k
      have := h3 (whF G A p)
      simp only [nU_at]
      split <;> omega
    · have := h4 k hk
      simp only [nU_at]
      rw [if_neg (by omega)]
      exact this
theorem GD_hoS {G : Wd} {A : Nat → Nat} {q : HS} {B p hr : Nat} (h : GD G q.2.1 B) (hA : AOK G A) (hp : p < G.P) : GD G (hoS G A hr q p).2.1 (B + 1) := by
  unfold hoS
  split
  · exact GD_mono h (by omega)
  · next h0 =>
    split
    · exact GD_fa h hA hp h0
    · exact GD_mono h (by omega)
theorem GD_hoF {G : Wd} {A : Nat → Nat} {hr : Nat} (hA : AOK G A) : ∀ n p (q : HS) B, p + n ≤ G.P → GD G q.2.1 B → GD G (hoF G A hr n p q).2.1 (B + n) := by
  intro n
  induction n with
  | zero => intro p q B _ h; exact h
  | succ n ih =>
    intro p q B hp h
    have := ih (p + 1) (hoS G A hr q p) (B + 1) (by omega) (GD_hoS h hA (by omega))
    rw [show B + 1 + n = B + (n + 1) by omega] at this
    exact this
theorem GD_hrF {G : Wd} {A : Nat → Nat} {hr : Nat} {q : HS} {B : Nat} (hA : AOK G A) (ok : WOK G) (h : GD G q.2.1 B) : GD G (hrF G A hr q).2.1 (B + 6) := by
  have := GD_hoF (hr := hr) hA G.P 0 (q.1, tuF A G.P 0 q.2.1, q.2.2) B (by omega) (GD_tuF hA G.P 0 q.2.1 (by omega) h)
  exact GD_mono this (by have := ok.1; omega)
theorem GD_hsF {G : Wd} {A : Nat → Nat} (hA : AOK G A) (ok : WOK G) : ∀ n hr (q : HS) B, GD G q.2.1 B → GD G (hsF G A n hr q).2.1 (B + 6 * n) := by
  intro n
  induction n with
  | zero => intro hr q B h; exact h
  | succ n ih =>
    intro hr q B h
    have := ih (hr + 1) (hrF G A hr q) (B + 6) (GD_hrF hA ok h)
    rw [show B + 6 + 6 * n = B + 6 * (n + 1) by omega] at this
    exact this
